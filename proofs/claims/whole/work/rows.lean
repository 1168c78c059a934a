section
-- ===== PART A: goes FIRST, ahead of the names: the tables' words, and 'selects' of the private methods out of them =====
/-- a private method of a class that the tables say can be made, by its rows of tables_1 -/
def lw_okq (q : MethodName × Nat) : Prop := (q.1.cls ≠ "java/lang/invoke/MethodHandle" ∧ q.1.cls ≠ "java/lang/invoke/VarHandle") ∧ Cond.instantiable q.1.cls q.2 ∈ tables_1 ∧ Cond.privateMethod q.1 ∈ tables_1 ∧ Cond.instanceMethod q.1 ∈ tables_1
theorem lw_p0 : lw_okq (⟨"VaryStore$Shelf", "moveToEnd", "(I)V"⟩, 3) := ⟨⟨by decide +kernel, by decide +kernel⟩, List.mem_of_getElem? (i := 47) (by decide +kernel), List.mem_of_getElem? (i := 174) (by decide +kernel), List.mem_of_getElem? (i := 175) (by decide +kernel)⟩
theorem lw_p1 : lw_okq (⟨"VaryStore", "readTape", "(I)V"⟩, 11) := ⟨⟨by decide +kernel, by decide +kernel⟩, List.mem_of_getElem? (i := 22) (by decide +kernel), List.mem_of_getElem? (i := 190) (by decide +kernel), List.mem_of_getElem? (i := 191) (by decide +kernel)⟩
theorem lw_p2 : lw_okq (⟨"VaryStore$Text", "addLine", "(II)Z"⟩, 5) := ⟨⟨by decide +kernel, by decide +kernel⟩, List.mem_of_getElem? (i := 66) (by decide +kernel), List.mem_of_getElem? (i := 209) (by decide +kernel), List.mem_of_getElem? (i := 210) (by decide +kernel)⟩
theorem lw_p3 : lw_okq (⟨"java/lang/Throwable", "fillInStackTrace", "(I)Ljava/lang/Throwable;"⟩, 6) := ⟨⟨by decide +kernel, by decide +kernel⟩, List.mem_of_getElem? (i := 270) (by decide +kernel), List.mem_of_getElem? (i := 268) (by decide +kernel), List.mem_of_getElem? (i := 269) (by decide +kernel)⟩
theorem lw_p4 : lw_okq (⟨"VaryStore", "cutList", "(LVaryStore$Text;Ljava/lang/String;LVaryStore$Items;)Z"⟩, 11) := ⟨⟨by decide +kernel, by decide +kernel⟩, List.mem_of_getElem? (i := 22) (by decide +kernel), List.mem_of_getElem? (i := 302) (by decide +kernel), List.mem_of_getElem? (i := 303) (by decide +kernel)⟩
theorem lw_p5 : lw_okq (⟨"VaryStore", "gather", "(LVaryStore$Text;Ljava/lang/String;)Z"⟩, 11) := ⟨⟨by decide +kernel, by decide +kernel⟩, List.mem_of_getElem? (i := 22) (by decide +kernel), List.mem_of_getElem? (i := 306) (by decide +kernel), List.mem_of_getElem? (i := 307) (by decide +kernel)⟩
theorem lw_p6 : lw_okq (⟨"VaryStore$Items", "addItem", "(LVaryStore$Row;II)V"⟩, 3) := ⟨⟨by decide +kernel, by decide +kernel⟩, List.mem_of_getElem? (i := 91) (by decide +kernel), List.mem_of_getElem? (i := 392) (by decide +kernel), List.mem_of_getElem? (i := 393) (by decide +kernel)⟩
theorem lw_p7 : lw_okq (⟨"VaryStore", "placeOfTheOne", "(I)I"⟩, 11) := ⟨⟨by decide +kernel, by decide +kernel⟩, List.mem_of_getElem? (i := 22) (by decide +kernel), List.mem_of_getElem? (i := 400) (by decide +kernel), List.mem_of_getElem? (i := 401) (by decide +kernel)⟩
theorem lw_p8 : lw_okq (⟨"VaryStore", "isAlike", "(LVaryStore$Thing;)Z"⟩, 11) := ⟨⟨by decide +kernel, by decide +kernel⟩, List.mem_of_getElem? (i := 22) (by decide +kernel), List.mem_of_getElem? (i := 404) (by decide +kernel), List.mem_of_getElem? (i := 405) (by decide +kernel)⟩
theorem lw_p9 : lw_okq (⟨"VaryStore", "judge", "(LVaryStore$Thing;)I"⟩, 11) := ⟨⟨by decide +kernel, by decide +kernel⟩, List.mem_of_getElem? (i := 22) (by decide +kernel), List.mem_of_getElem? (i := 429) (by decide +kernel), List.mem_of_getElem? (i := 430) (by decide +kernel)⟩
theorem lw_p10 : lw_okq (⟨"VaryStore$Items", "saysItem", "(IILjava/lang/String;)I"⟩, 3) := ⟨⟨by decide +kernel, by decide +kernel⟩, List.mem_of_getElem? (i := 91) (by decide +kernel), List.mem_of_getElem? (i := 442) (by decide +kernel), List.mem_of_getElem? (i := 443) (by decide +kernel)⟩
theorem lw_p11 : lw_okq (⟨"VaryStore$Items", "begins", "(ILjava/lang/String;)Z"⟩, 3) := ⟨⟨by decide +kernel, by decide +kernel⟩, List.mem_of_getElem? (i := 91) (by decide +kernel), List.mem_of_getElem? (i := 447) (by decide +kernel), List.mem_of_getElem? (i := 448) (by decide +kernel)⟩
theorem lw_p12 : lw_okq (⟨"VaryStore", "describe", "(LVaryStore$Thing;I)V"⟩, 11) := ⟨⟨by decide +kernel, by decide +kernel⟩, List.mem_of_getElem? (i := 22) (by decide +kernel), List.mem_of_getElem? (i := 549) (by decide +kernel), List.mem_of_getElem? (i := 550) (by decide +kernel)⟩
theorem lw_p13 : lw_okq (⟨"VaryStore", "startLife", "(LVaryStore$Thing;)V"⟩, 11) := ⟨⟨by decide +kernel, by decide +kernel⟩, List.mem_of_getElem? (i := 22) (by decide +kernel), List.mem_of_getElem? (i := 579) (by decide +kernel), List.mem_of_getElem? (i := 580) (by decide +kernel)⟩
theorem lw_p14 : lw_okq (⟨"VaryStore", "numberOf", "(Ljava/lang/String;)I"⟩, 11) := ⟨⟨by decide +kernel, by decide +kernel⟩, List.mem_of_getElem? (i := 22) (by decide +kernel), List.mem_of_getElem? (i := 584) (by decide +kernel), List.mem_of_getElem? (i := 585) (by decide +kernel)⟩
theorem lw_p15 : lw_okq (⟨"VaryStore", "placeOfSame", "(LVaryStore$Thing;)I"⟩, 11) := ⟨⟨by decide +kernel, by decide +kernel⟩, List.mem_of_getElem? (i := 22) (by decide +kernel), List.mem_of_getElem? (i := 592) (by decide +kernel), List.mem_of_getElem? (i := 593) (by decide +kernel)⟩
def lw_privs_1 : List (MethodName × Nat) := [(⟨"VaryStore$Shelf", "moveToEnd", "(I)V"⟩, 3), (⟨"VaryStore", "readTape", "(I)V"⟩, 11), (⟨"VaryStore$Text", "addLine", "(II)Z"⟩, 5), (⟨"java/lang/Throwable", "fillInStackTrace", "(I)Ljava/lang/Throwable;"⟩, 6), (⟨"VaryStore", "cutList", "(LVaryStore$Text;Ljava/lang/String;LVaryStore$Items;)Z"⟩, 11), (⟨"VaryStore", "gather", "(LVaryStore$Text;Ljava/lang/String;)Z"⟩, 11), (⟨"VaryStore$Items", "addItem", "(LVaryStore$Row;II)V"⟩, 3), (⟨"VaryStore", "placeOfTheOne", "(I)I"⟩, 11), (⟨"VaryStore", "isAlike", "(LVaryStore$Thing;)Z"⟩, 11), (⟨"VaryStore", "judge", "(LVaryStore$Thing;)I"⟩, 11), (⟨"VaryStore$Items", "saysItem", "(IILjava/lang/String;)I"⟩, 3), (⟨"VaryStore$Items", "begins", "(ILjava/lang/String;)Z"⟩, 3), (⟨"VaryStore", "describe", "(LVaryStore$Thing;I)V"⟩, 11), (⟨"VaryStore", "startLife", "(LVaryStore$Thing;)V"⟩, 11), (⟨"VaryStore", "numberOf", "(Ljava/lang/String;)I"⟩, 11), (⟨"VaryStore", "placeOfSame", "(LVaryStore$Thing;)I"⟩, 11)]
theorem lw_r1 : ∀ q ∈ lw_privs_1, lw_okq q := List.forall_mem_cons.mpr ⟨lw_p0, List.forall_mem_cons.mpr ⟨lw_p1, List.forall_mem_cons.mpr ⟨lw_p2, List.forall_mem_cons.mpr ⟨lw_p3, List.forall_mem_cons.mpr ⟨lw_p4, List.forall_mem_cons.mpr ⟨lw_p5, List.forall_mem_cons.mpr ⟨lw_p6, List.forall_mem_cons.mpr ⟨lw_p7, List.forall_mem_cons.mpr ⟨lw_p8, List.forall_mem_cons.mpr ⟨lw_p9, List.forall_mem_cons.mpr ⟨lw_p10, List.forall_mem_cons.mpr ⟨lw_p11, List.forall_mem_cons.mpr ⟨lw_p12, List.forall_mem_cons.mpr ⟨lw_p13, List.forall_mem_cons.mpr ⟨lw_p14, List.forall_mem_cons.mpr ⟨lw_p15, fun _ h => absurd h List.not_mem_nil⟩⟩⟩⟩⟩⟩⟩⟩⟩⟩⟩⟩⟩⟩⟩⟩
theorem lw_p16 : lw_okq (⟨"VaryStore", "mayBeKept", "(LVaryStore$Thing;)Z"⟩, 11) := ⟨⟨by decide +kernel, by decide +kernel⟩, List.mem_of_getElem? (i := 22) (by decide +kernel), List.mem_of_getElem? (i := 596) (by decide +kernel), List.mem_of_getElem? (i := 597) (by decide +kernel)⟩
theorem lw_p17 : lw_okq (⟨"VaryStoreModel", "read", "()LVaryStoreModel$Text;"⟩, 9) := ⟨⟨by decide +kernel, by decide +kernel⟩, List.mem_of_getElem? (i := 668) (by decide +kernel), List.mem_of_getElem? (i := 743) (by decide +kernel), List.mem_of_getElem? (i := 744) (by decide +kernel)⟩
theorem lw_p18 : lw_okq (⟨"VaryStoreModel", "theOne", "(I)I"⟩, 9) := ⟨⟨by decide +kernel, by decide +kernel⟩, List.mem_of_getElem? (i := 668) (by decide +kernel), List.mem_of_getElem? (i := 779) (by decide +kernel), List.mem_of_getElem? (i := 780) (by decide +kernel)⟩
theorem lw_p19 : lw_okq (⟨"VaryStoreModel", "answer", "(LVaryStoreModel$Thing;[I)I"⟩, 9) := ⟨⟨by decide +kernel, by decide +kernel⟩, List.mem_of_getElem? (i := 668) (by decide +kernel), List.mem_of_getElem? (i := 797) (by decide +kernel), List.mem_of_getElem? (i := 798) (by decide +kernel)⟩
theorem lw_p20 : lw_okq (⟨"VaryStoreModel", "ageOf", "(LVaryStoreModel$Thing;)I"⟩, 9) := ⟨⟨by decide +kernel, by decide +kernel⟩, List.mem_of_getElem? (i := 668) (by decide +kernel), List.mem_of_getElem? (i := 815) (by decide +kernel), List.mem_of_getElem? (i := 816) (by decide +kernel)⟩
theorem lw_p21 : lw_okq (⟨"VaryStoreModel", "isFresh", "(LVaryStoreModel$Thing;)Z"⟩, 9) := ⟨⟨by decide +kernel, by decide +kernel⟩, List.mem_of_getElem? (i := 668) (by decide +kernel), List.mem_of_getElem? (i := 823) (by decide +kernel), List.mem_of_getElem? (i := 824) (by decide +kernel)⟩
theorem lw_p22 : lw_okq (⟨"VaryStoreModel", "use", "(LVaryStoreModel$Thing;)V"⟩, 9) := ⟨⟨by decide +kernel, by decide +kernel⟩, List.mem_of_getElem? (i := 668) (by decide +kernel), List.mem_of_getElem? (i := 827) (by decide +kernel), List.mem_of_getElem? (i := 828) (by decide +kernel)⟩
theorem lw_p23 : lw_okq (⟨"VaryStoreModel", "setWords", "(LVaryStoreModel$Thing;[I)V"⟩, 9) := ⟨⟨by decide +kernel, by decide +kernel⟩, List.mem_of_getElem? (i := 668) (by decide +kernel), List.mem_of_getElem? (i := 886) (by decide +kernel), List.mem_of_getElem? (i := 887) (by decide +kernel)⟩
theorem lw_p24 : lw_okq (⟨"VaryStoreModel", "setTimes", "(LVaryStoreModel$Thing;LVaryStoreModel$Text;)V"⟩, 9) := ⟨⟨by decide +kernel, by decide +kernel⟩, List.mem_of_getElem? (i := 668) (by decide +kernel), List.mem_of_getElem? (i := 895) (by decide +kernel), List.mem_of_getElem? (i := 896) (by decide +kernel)⟩
theorem lw_p25 : lw_okq (⟨"VaryStoreModel", "placeOf", "(LVaryStoreModel$Thing;)I"⟩, 9) := ⟨⟨by decide +kernel, by decide +kernel⟩, List.mem_of_getElem? (i := 668) (by decide +kernel), List.mem_of_getElem? (i := 905) (by decide +kernel), List.mem_of_getElem? (i := 906) (by decide +kernel)⟩
theorem lw_p26 : lw_okq (⟨"VaryStoreModel", "takeOut", "(I)V"⟩, 9) := ⟨⟨by decide +kernel, by decide +kernel⟩, List.mem_of_getElem? (i := 668) (by decide +kernel), List.mem_of_getElem? (i := 909) (by decide +kernel), List.mem_of_getElem? (i := 910) (by decide +kernel)⟩
theorem lw_p27 : lw_okq (⟨"VaryStoreModel", "putLast", "(LVaryStoreModel$Thing;)V"⟩, 9) := ⟨⟨by decide +kernel, by decide +kernel⟩, List.mem_of_getElem? (i := 668) (by decide +kernel), List.mem_of_getElem? (i := 918) (by decide +kernel), List.mem_of_getElem? (i := 919) (by decide +kernel)⟩
theorem lw_p28 : lw_okq (⟨"VaryStoreModel", "longestAgo", "()I"⟩, 9) := ⟨⟨by decide +kernel, by decide +kernel⟩, List.mem_of_getElem? (i := 668) (by decide +kernel), List.mem_of_getElem? (i := 922) (by decide +kernel), List.mem_of_getElem? (i := 923) (by decide +kernel)⟩
def lw_privs_2 : List (MethodName × Nat) := [(⟨"VaryStore", "mayBeKept", "(LVaryStore$Thing;)Z"⟩, 11), (⟨"VaryStoreModel", "read", "()LVaryStoreModel$Text;"⟩, 9), (⟨"VaryStoreModel", "theOne", "(I)I"⟩, 9), (⟨"VaryStoreModel", "answer", "(LVaryStoreModel$Thing;[I)I"⟩, 9), (⟨"VaryStoreModel", "ageOf", "(LVaryStoreModel$Thing;)I"⟩, 9), (⟨"VaryStoreModel", "isFresh", "(LVaryStoreModel$Thing;)Z"⟩, 9), (⟨"VaryStoreModel", "use", "(LVaryStoreModel$Thing;)V"⟩, 9), (⟨"VaryStoreModel", "setWords", "(LVaryStoreModel$Thing;[I)V"⟩, 9), (⟨"VaryStoreModel", "setTimes", "(LVaryStoreModel$Thing;LVaryStoreModel$Text;)V"⟩, 9), (⟨"VaryStoreModel", "placeOf", "(LVaryStoreModel$Thing;)I"⟩, 9), (⟨"VaryStoreModel", "takeOut", "(I)V"⟩, 9), (⟨"VaryStoreModel", "putLast", "(LVaryStoreModel$Thing;)V"⟩, 9), (⟨"VaryStoreModel", "longestAgo", "()I"⟩, 9)]
theorem lw_r2 : ∀ q ∈ lw_privs_2, lw_okq q := List.forall_mem_cons.mpr ⟨lw_p16, List.forall_mem_cons.mpr ⟨lw_p17, List.forall_mem_cons.mpr ⟨lw_p18, List.forall_mem_cons.mpr ⟨lw_p19, List.forall_mem_cons.mpr ⟨lw_p20, List.forall_mem_cons.mpr ⟨lw_p21, List.forall_mem_cons.mpr ⟨lw_p22, List.forall_mem_cons.mpr ⟨lw_p23, List.forall_mem_cons.mpr ⟨lw_p24, List.forall_mem_cons.mpr ⟨lw_p25, List.forall_mem_cons.mpr ⟨lw_p26, List.forall_mem_cons.mpr ⟨lw_p27, List.forall_mem_cons.mpr ⟨lw_p28, fun _ h => absurd h List.not_mem_nil⟩⟩⟩⟩⟩⟩⟩⟩⟩⟩⟩⟩⟩
def lw_privs : List (MethodName × Nat) := lw_privs_1 ++ (lw_privs_2)
def lw_tbl : List Cond := k2_sels lw_privs ++ tables_1
theorem lw_privs_ok : ∀ q ∈ lw_privs, lw_okq q := by
  show ∀ q ∈ lw_privs_1 ++ (lw_privs_2), lw_okq q
  exact List.forall_mem_append.mpr ⟨lw_r1, lw_r2⟩
/-! ===== BEGIN words of one list among another's, by their places ===== -/
theorem goodIn_r {big : List Cond} (ws : List Cond) (ps : List Nat) (hp : ws = ps.filterMap (fun i => big[i]?)) (h : ws.all goodWord = true) : GoodIn big ws := by
  intro w hw
  have h1 := List.all_eq_true.mp h w hw
  rw [hp] at hw
  obtain ⟨i, -, hi⟩ := List.mem_filterMap.mp hw
  have hm : w ∈ big := by first | exact List.mem_of_getElem? hi | exact List.getElem?_mem hi
  exact ⟨hm, good_of_word h1⟩
theorem goodIn_app {big a b : List Cond} (ha : GoodIn big a) (hb : GoodIn big b) : GoodIn big (a ++ b) := fun w h => (List.mem_append.mp h).elim (ha w) (hb w)
theorem goodIn_ca {big a b : List Cond} {c : Cond} (ha : GoodIn big (c :: a)) (hb : GoodIn big b) : GoodIn big (c :: (a ++ b)) := fun w h => (List.mem_cons.mp h).elim (fun e => ha w (List.mem_cons.mpr (Or.inl e))) (fun h => (List.mem_append.mp h).elim (fun h => ha w (List.mem_cons.mpr (Or.inr h))) (hb w))
theorem goodIn_sub {big ws : List Cond} (hm : ∀ w ∈ ws, w ∈ big) (h : ws.all goodWord = true) : GoodIn big ws := fun w hw => ⟨hm w hw, good_of_word (List.all_eq_true.mp h w hw)⟩
/-! ===== END ===== -/
/-! ===== BEGIN exceptions that leave a method, and their catching by the caller (launches without stack traces) ===== -/
section VXA
/-! The laws vx_back, vx_callV, vx_callS, vx_callSW, vx_throw0, vx_throwS follow proofs of the library, with one case more: JvmDerived/Free/Laws.lean (Back.of_free), Shelf42/LK1.lean (callV, callS), Shelf/KitTraced.lean (throwNew0V, throwNewS). -/
/-- where a method has thrown q: the class by its name, the cell, what was written, the world -/
def vx_T (XC : String → State → State → Prop) (st : State) (q : Addr) (t : State) (mc ms : Nat) (free : Addr → Prop) : Prop :=
  ∃ (E : String) (ce : Cell) (L : List Loc), XC E st t ∧ t.heap[q]? = some ce ∧ ce.vm = .none ∧ st.vm.findClass E = some ce.cls ∧ st.WarmedH t.vm ∧ st.sameButNew ({ t with vm := st.vm } : State) L mc ms ∧ ∀ z ∈ L, free z.base
def vx_Q (Qc : Array Value → State → Outcome → State → Prop) (XC : String → State → State → Prop) (mc ms : Nat) (free : Addr → Prop) : Array Value → State → Outcome → State → Prop := fun a st o t =>
  (Qc a st o t ∧ ∃ L, FrameEnd st o t L mc ms ∧ ∀ q ∈ L, free q.base) ∨ ∃ q, o = .threw q ∧ vx_T XC st q t mc ms free
/-- a callee that returns or throws -/
def vx_Met (l : Launch) (y : MethodName) (ws : List Cond) (rm : Room) (Pc : Array Value → State → Prop) (Qc : Array Value → State → Outcome → State → Prop) (XC : String → State → State → Prop) (mc ms : Nat) (free : Addr → Prop) : Prop :=
  MetFree l y (headSpec ws rm) Pc (fun _ _ _ _ _ => True) (vx_Q Qc XC mc ms free)
def vx_Post (XC : String → State → State → Prop) (mc ms : Nat) (free : Addr → Prop) : Pt → Array Value → Addr → Pt → Prop := fun A a q B =>
  ∃ (g : JFrame) (mk : MethodId) (t : State) (L : List Loc) (E : String) (ce : Cell), B.U.heap = t.heap ∧ B.U.vm = t.vm ∧ XC E (A.U.calling g mk a) t ∧ t.heap[q]? = some ce ∧ ce.vm = .none ∧ A.U.vm.findClass E = some ce.cls ∧ B.locs = A.locs ++ L ∧ (∀ z ∈ L, free z.base) ∧ B.cells = A.cells + mc ∧ B.slots = A.slots + ms
def vx_Back (l : Launch) (R : Room) (p : Program) (e : Env) (below : List Frame) (s : State) (sargs : Array Value) (y : MethodName) (len W9 : Nat)
    (Pre : Pt → Array Value → Prop) (Post : Pt → Array Value → Option Value → Pt → Prop) (PostX : Pt → Array Value → Addr → Pt → Prop) : Prop :=
  ∀ (m : MethodId) (meth : Method) (c : Code) (A : Pt) (g : JFrame) (ig : Instr) (mk : MethodId) (a : Array Value),
    Stand p l e R s m sargs below meth c A.U A.locs A.cells A.slots → g.method = m → g.locals.size = c.maxLocals → decode c.code g.pc = .ok (ig, len) →
    2 * g.monitorRoom + (g.stack.map fun v => v.category).sum ≤ W9 → A.U.methodNamed? y = some mk → Pre A a →
    (∃ (v : Option Value) (B : Pt), Stand p l e R s m sargs below meth c B.U B.locs B.cells B.slots ∧ Post A a v B ∧
      Steps p.tables e below (doInvoke e (A.U.setTop g) [] mk a).1 (B.U.setTop { g with pc := g.pc + len, stack := v.toList ++ g.stack })) ∨
    (∃ (q : Addr) (B : Pt), Stand p l e R s m sargs below meth c B.U B.locs B.cells B.slots ∧ PostX A a q B ∧
      Steps p.tables e below (doInvoke e (A.U.setTop g) [] mk a).1 ((B.U.setTop g).pushFrame (.throwing q)))
section Payer
variable {l : Launch} {R : Room} {p : Program} {e : Env} {below : List Frame} {s : State} {sargs : Array Value} {y : MethodName} {len W9 : Nat}
theorem vx_back {ws : List Cond} {rm : Room} {Pc : Array Value → State → Prop} {Qc : Array Value → State → Outcome → State → Prop} {XC : String → State → State → Prop} {mc ms : Nat} {free : Addr → Prop} {bytes : ByteArray} {maxL : Nat} {ret : Option FieldType}
    (hM : vx_Met l y ws rm Pc Qc XC mc ms free) (hblind : FrameBlind Pc) (hrc : rm.cells = mc) (hrs : rm.slots = ms)
    (hframes : rm.frames + 1 ≤ R.frames) (hlocals : W9 + (maxL + 11) + rm.locals ≤ R.locals)
    (hws : ∀ w ∈ ws, ∀ a' U, s.WarmedH U.vm → w.before a' U = true) (hcode : Cond.code y bytes maxL ret ∈ ws) (hinit : ∀ a' U, s.WarmedH U.vm → (Cond.initialized y.cls).before a' U = true) :
    vx_Back l R p e below s sargs y len W9 (PreOf R mc ms Pc) (PostOf Qc mc ms free) (vx_Post XC mc ms free) := by
  intro m meth c A g ig mk a X hg hsize hdg hW hn hp
  have h1 : (headSpec ws rm).pre.before a A.U = true := atoms_intro fun w hw => hws w hw _ _ X.warmed
  have h2 : (Cond.code y bytes maxL ret).before a A.U = true := hws _ hcode _ _ X.warmed
  have h3 : (Cond.initialized y.cls).before a A.U = true := hinit _ _ X.warmed
  have h4 : A.cells + (headSpec ws rm).room.cells ≤ R.cells := by rw [show (headSpec ws rm).room.cells = mc from hrc]; exact hp.1
  have h5 : A.slots + (headSpec ws rm).room.slots ≤ R.slots := by rw [show (headSpec ws rm).room.slots = ms from hrs]; exact hp.2.1
  have hPc : Pc a (A.U.calling g mk a) := hblind _ _ _ _ hp.2.2
  obtain ⟨U, Ls, c0, s0⟩ := A
  dsimp only [Pt.U, Pt.locs, Pt.cells, Pt.slots] at h1 h2 h3 h4 h5 X hn hPc ⊢
  obtain ⟨methY, cY, hmY, hcY, -, hlY, -, -, -, -⟩ := Cond.code_spec hn h2
  obtain ⟨kY, hkY, -⟩ := className_of_methodNamed hn
  have hinitY : kY.init = .initialized := Cond.initialized_spec (findClass_of_methodNamed hn) hkY h3
  have h : At U g.method c below := by rw [hg]; exact X.here
  have hlocals9 : W9 + (maxL + 11) + (headSpec ws rm).room.locals ≤ R.locals := hlocals
  have happ : (headSpec ws rm).appliesLoose y e.platform (U.calling g mk a) = true :=
    Spec.appliesLoose_calling (g := g) h hdg hn hkY hinitY
      (X.room_calling (g := g) (R' := (headSpec ws rm).room) hsize hmY hcY hframes (by rw [hlY]; omega) h4 h5) h1
  obtain ⟨mid, hmid⟩ := h.above
  have hfr : (U.setTop g).frames = (.java g :: mid) ++ below := by rw [State.frames_setTop' g h.top, hmid]; rfl
  obtain ⟨o, s₂, hsteps, -, hend, hq⟩ := Steps.callFree hM p X.admits X.cas X.clock (acts := []) hfr happ hPc trivial
  have hq' : vx_Q Qc XC mc ms free a (U.calling g mk a) o s₂ := hq
  rw [State.frames_setTop' g h.top] at hend
  obtain ⟨g₀, hg0⟩ := Option.isSome_iff_exists.mp h.top
  obtain ⟨r, hr⟩ := State.topJava?_eq_some.mp hg0
  have hr' : (({ U with heap := s₂.heap, slotsUsed := s₂.slotsUsed } : State).setVm s₂.vm).frames = .java g₀ :: r := hr
  rcases hq' with ⟨hqc, L, hfe, hL⟩ | ⟨q, rfl, E, ce, L, hx, hce, hcv, hcl, hW₂, hsm, hL⟩
  · obtain ⟨⟨v, rfl⟩, hW₂, e2, q2, q3, q4, q5, q6⟩ := id hfe
    have e3 : s₂ = ({ (U.calling g mk a).setFrames s₂.frames with heap := s₂.heap, slotsUsed := s₂.slotsUsed } : State).setVm s₂.vm := by
      have : s₂ = ({ s₂ with vm := (U.calling g mk a).vm } : State).setVm s₂.vm := rfl
      rw [e2] at this
      exact this
    obtain ⟨c₂, i₂, len₂, hc₂, hd₂, hf₂⟩ := hend
    have hW' : U.WarmedH s₂.vm := hW₂
    have hcc : c₂ = c := by
      have h1 : s₂.code? g.method = U.code? g.method := by
        rw [State.code?_eq, State.code?_eq, hW'.alike.method?]
      exact Option.some.inj (hc₂.symm.trans (h1.trans h.code))
    subst hcc
    have hlen : len₂ = len := by rw [hdg] at hd₂; cases hd₂; rfl
    subst hlen
    have hs₂ : s₂ = (({ U with heap := s₂.heap, slotsUsed := s₂.slotsUsed } : State).setVm s₂.vm).setTop { g with pc := g.pc + len₂, stack := v.toList ++ g.stack } := by
      refine e3.trans ?_
      rw [hf₂, State.calling_eq h.top, State.setFrames_setFrames, State.setTop_of_frames _ hr', hr]
      rfl
    have hsame : U.sameButNew ({ U with heap := s₂.heap, slotsUsed := s₂.slotsUsed } : State) L mc ms := by
      refine ⟨?_, q2, q3, q4, q5, q6⟩
      obtain ⟨t, ht, -⟩ := State.frames_cons hr
      show ({ U with heap := s₂.heap, slotsUsed := s₂.slotsUsed } : State) = { U.setFrames U.frames with heap := s₂.heap, slotsUsed := s₂.slotsUsed }
      rw [State.setFrames_self ht]
    subst hg
    refine Or.inl ⟨v, ⟨(({ U with heap := s₂.heap, slotsUsed := s₂.slotsUsed } : State).setVm s₂.vm), Ls ++ L, c0 + mc, s0 + ms⟩,
      ⟨X.admits, X.cas, X.clock, X.frames, X.room, X.hears, X.method, X.code, (X.here.setHeapUsed s₂.heap s₂.slotsUsed).setVm hW'.alike, X.tail, State.WarmedH.trans X.warmed hW', X.limits, X.bytes, X.same.trans (hsame.setVm s.vm)⟩,
      ⟨g, mk, s₂, L, rfl, rfl, hqc, rfl, hL, rfl, rfl⟩, ?_⟩
    show Steps p.tables e below _ ((({ U with heap := s₂.heap, slotsUsed := s₂.slotsUsed } : State).setVm s₂.vm).setTop { g with pc := g.pc + len₂, stack := v.toList ++ g.stack })
    rw [← hs₂]
    exact hsteps
  · obtain ⟨e2, q2, q3, q4, q5, q6⟩ := id hsm
    have e3 : s₂ = ({ (U.calling g mk a).setFrames s₂.frames with heap := s₂.heap, slotsUsed := s₂.slotsUsed } : State).setVm s₂.vm := by
      have : s₂ = ({ s₂ with vm := (U.calling g mk a).vm } : State).setVm s₂.vm := rfl
      rw [e2] at this
      exact this
    have hf₂ : s₂.frames = .throwing q :: .java g :: U.frames.tail := hend
    have hW' : U.WarmedH s₂.vm := hW₂
    have hs₂ : s₂ = ((({ U with heap := s₂.heap, slotsUsed := s₂.slotsUsed } : State).setVm s₂.vm).setTop g).pushFrame (.throwing q) := by
      refine e3.trans ?_
      rw [hf₂, State.calling_eq h.top, State.setFrames_setFrames, State.pushFrame, State.frames_setTop _ hr', State.setTop_of_frames _ hr', State.setFrames_setFrames, hr]
      rfl
    have hsame : U.sameButNew ({ U with heap := s₂.heap, slotsUsed := s₂.slotsUsed } : State) L mc ms := by
      refine ⟨?_, q2, q3, q4, q5, q6⟩
      obtain ⟨t, ht, -⟩ := State.frames_cons hr
      show ({ U with heap := s₂.heap, slotsUsed := s₂.slotsUsed } : State) = { U.setFrames U.frames with heap := s₂.heap, slotsUsed := s₂.slotsUsed }
      rw [State.setFrames_self ht]
    subst hg
    refine Or.inr ⟨q, ⟨(({ U with heap := s₂.heap, slotsUsed := s₂.slotsUsed } : State).setVm s₂.vm), Ls ++ L, c0 + mc, s0 + ms⟩,
      ⟨X.admits, X.cas, X.clock, X.frames, X.room, X.hears, X.method, X.code, (X.here.setHeapUsed s₂.heap s₂.slotsUsed).setVm hW'.alike, X.tail, State.WarmedH.trans X.warmed hW', X.limits, X.bytes, X.same.trans (hsame.setVm s.vm)⟩,
      ⟨g, mk, s₂, L, E, ce, rfl, rfl, hx, hce, hcv, hcl, rfl, hL, rfl, rfl⟩, ?_⟩
    show Steps p.tables e below _ (((({ U with heap := s₂.heap, slotsUsed := s₂.slotsUsed } : State).setVm s₂.vm).setTop g).pushFrame (.throwing q))
    rw [← hs₂]
    exact hsteps
end Payer
section Calls
variable {p : Program} {l : Launch} {e : Env} {R : Room} {s : State} {m : MethodId} {args : Array Value} {below : List Frame} {meth : Method} {c : Code} {T : State} {locs : List Loc} {cells slots : Nat}
theorem vx_callV (X : Stand p l e R s m args below meth c T locs cells slots) (hexec : p.tables.exec = Jvm.exec) {own C : String} {index : Nat} {y : MethodName} {bytes : ByteArray} {maxL : Nat} {ret : Option FieldType}
    (hown : s.vm.findClass own = some m.cls) (hlink : (Cond.methodLink own index y).before args s = true) (hinst : (Cond.instanceMethod y).before args s = true) (hsel : (Cond.selects C y y).before args s = true)
    (hcode : (Cond.code y bytes maxL ret).before args s = true) (hy : y.cls ≠ "java/lang/invoke/MethodHandle" ∧ y.cls ≠ "java/lang/invoke/VarHandle")
    {W9 : Nat} {Pre : Pt → Array Value → Prop} {Post : Pt → Array Value → Option Value → Pt → Prop} {PostX : Pt → Array Value → Addr → Pt → Prop} (hK : vx_Back l R p e below s args y 3 W9 Pre Post PostX)
    {b : Addr} {cellB : Cell} (hcell : T.heap[b]? = some cellB) (hobj : cellB.vm.isStatics = false) (hcls : s.vm.findClass C = some cellB.cls)
    {g : JFrame} (hg : g.method = m) (hsize : g.locals.size = c.maxLocals) {argsL rest : List Value} (hlen : ∀ sig, parseMethodDescriptor y.desc = some sig → argsL.length = sig.parameters.length)
    (hstack : g.stack = argsL.reverse ++ .ref b :: rest) (hW : 2 * g.monitorRoom + (rest.map fun v => v.category).sum ≤ W9) (hdg : decode c.code g.pc = .ok (.invokevirtual index, 3))
    (hpre : ∀ vm₁, s.WarmedH vm₁ → Pre ⟨T.setVm vm₁, locs, cells, slots⟩ (Value.ref b :: argsL).toArray) :
    (∃ (v : Option Value) (vm₁ : Vm) (B : Pt), s.WarmedH vm₁ ∧ Stand p l e R s m args below meth c B.U B.locs B.cells B.slots ∧ Post ⟨T.setVm vm₁, locs, cells, slots⟩ (Value.ref b :: argsL).toArray v B ∧
      ∀ target, Steps p.tables e below (B.U.setTop { g with pc := g.pc + 3, stack := v.toList ++ rest }) target → Steps p.tables e below (T.setTop g) target) ∨
    (∃ (q : Addr) (vm₁ : Vm) (B : Pt), s.WarmedH vm₁ ∧ Stand p l e R s m args below meth c B.U B.locs B.cells B.slots ∧ PostX ⟨T.setVm vm₁, locs, cells, slots⟩ (Value.ref b :: argsL).toArray q B ∧
      Steps p.tables e below (T.setTop g) ((B.U.setTop { g with stack := rest }).pushFrame (.throwing q))) := by
  obtain ⟨mk, methM, hnamed, hmethM, hstM, habM⟩ := Cond.instanceMethod_spec hinst
  obtain ⟨methM', cM, hmethM', -, -, -, -, -, -, hsigM⟩ := Cond.code_spec hnamed hcode
  cases hmethM.symm.trans hmethM'
  obtain ⟨c2, r2, m2, q1, q2, q3, q4, kP, hkP, hkPi⟩ := Cond.selects_spec hsel
  cases hcls.symm.trans q1
  cases (State.methodFound?_of_named hnamed hy).symm.trans q2
  cases hnamed.symm.trans q3
  have hselP : selectMethod e.platform s.vm cellB.cls mk = .method mk := by rw [Launch.admits_selectMethod X.admits]; exact q4
  obtain ⟨vm₁, X₁, hstep₁⟩ := X.invokevirtual hexec hown hlink hnamed hmethM hstM hkP hkPi hy (a := b) (cell := cellB) hcell
    (fun z h => by rw [h] at hobj; cases hobj) hselP hmethM habM hkP hkPi (g := g) hg (argsL := argsL) (rest := rest) (hlen _ hsigM) hstack hdg
  rcases hK m meth c ⟨T.setVm vm₁, locs, cells, slots⟩ { g with stack := rest } (.invokevirtual index) mk (Value.ref b :: argsL).toArray X₁ hg hsize hdg hW (X₁.named hnamed) (hpre vm₁ X₁.warmed) with ⟨v, B, X', hpost, hsteps⟩ | ⟨q, B, X', hpost, hsteps⟩
  · exact Or.inl ⟨v, vm₁, B, X₁.warmed, X', hpost, fun target h => hstep₁ _ fun acts => by rw [doInvoke_state]; exact hsteps.trans h⟩
  · exact Or.inr ⟨q, vm₁, B, X₁.warmed, X', hpost, hstep₁ _ fun acts => by rw [doInvoke_state]; exact hsteps⟩
theorem vx_callS (X : Stand p l e R s m args below meth c T locs cells slots) (hexec : p.tables.exec = Jvm.exec) {own : String} {index : Nat} {y : MethodName} {bytes : ByteArray} {maxL : Nat} {ret : Option FieldType}
    (hown : s.vm.findClass own = some m.cls) (hlink : (Cond.methodLink own index y).before args s = true) (hstat : (Cond.static y).before args s = true) (hinit : (Cond.initialized y.cls).before args s = true)
    (hcode : (Cond.code y bytes maxL ret).before args s = true) (hy : y.cls ≠ "java/lang/invoke/MethodHandle" ∧ y.cls ≠ "java/lang/invoke/VarHandle")
    {W9 : Nat} {Pre : Pt → Array Value → Prop} {Post : Pt → Array Value → Option Value → Pt → Prop} {PostX : Pt → Array Value → Addr → Pt → Prop} (hK : vx_Back l R p e below s args y 3 W9 Pre Post PostX)
    {g : JFrame} (hg : g.method = m) (hsize : g.locals.size = c.maxLocals) {argsL rest : List Value} (hlen : ∀ sig, parseMethodDescriptor y.desc = some sig → argsL.length = sig.parameters.length)
    (hstack : g.stack = argsL.reverse ++ rest) (hW : 2 * g.monitorRoom + (rest.map fun v => v.category).sum ≤ W9) (hdg : decode c.code g.pc = .ok (.invokestatic index, 3))
    (hpre : ∀ vm₁, s.WarmedH vm₁ → Pre ⟨T.setVm vm₁, locs, cells, slots⟩ argsL.toArray) :
    (∃ (v : Option Value) (vm₁ : Vm) (B : Pt), s.WarmedH vm₁ ∧ Stand p l e R s m args below meth c B.U B.locs B.cells B.slots ∧ Post ⟨T.setVm vm₁, locs, cells, slots⟩ argsL.toArray v B ∧
      ∀ target, Steps p.tables e below (B.U.setTop { g with pc := g.pc + 3, stack := v.toList ++ rest }) target → Steps p.tables e below (T.setTop g) target) ∨
    (∃ (q : Addr) (vm₁ : Vm) (B : Pt), s.WarmedH vm₁ ∧ Stand p l e R s m args below meth c B.U B.locs B.cells B.slots ∧ PostX ⟨T.setVm vm₁, locs, cells, slots⟩ argsL.toArray q B ∧
      Steps p.tables e below (T.setTop g) ((B.U.setTop { g with stack := rest }).pushFrame (.throwing q))) := by
  obtain ⟨mk, hnamed⟩ := Cond.code_named hcode
  obtain ⟨methM, cM, hmethM, -, -, -, -, -, -, hsigM⟩ := Cond.code_spec hnamed hcode
  have hstatic : methM.isStatic = true := Cond.static_spec hnamed hmethM hstat
  obtain ⟨kP, hkP, -⟩ := className_of_methodNamed hnamed
  have hinitP : kP.init = .initialized := Cond.initialized_spec (findClass_of_methodNamed hnamed) hkP hinit
  obtain ⟨vm₁, X₁, hstep₁⟩ := X.invokestatic hexec hown hlink hnamed hmethM hstatic hkP hinitP hy (g := g) hg (argsL := argsL) (rest := rest) (hlen _ hsigM) hstack hdg
  rcases hK m meth c ⟨T.setVm vm₁, locs, cells, slots⟩ { g with stack := rest } (.invokestatic index) mk argsL.toArray X₁ hg hsize hdg hW (X₁.named hnamed) (hpre vm₁ X₁.warmed) with ⟨v, B, X', hpost, hsteps⟩ | ⟨q, B, X', hpost, hsteps⟩
  · exact Or.inl ⟨v, vm₁, B, X₁.warmed, X', hpost, fun target h => hstep₁ _ fun acts => by rw [doInvoke_state]; exact hsteps.trans h⟩
  · exact Or.inr ⟨q, vm₁, B, X₁.warmed, X', hpost, hstep₁ _ fun acts => by rw [doInvoke_state]; exact hsteps⟩
end Calls
theorem vx_cls {s : State} {T : State} {vm₁ : Vm} {E : String} {k : ClassId} (hW : s.WarmedH vm₁) (h : (T.setVm vm₁).vm.findClass E = some k) : s.vm.findClass E = some k := by
  have h1 : vm₁.findClass E = some k := h
  rw [hW.alike.findClass] at h1
  exact h1
/-- the method's frame g, with q thrown over it -/
def vx_W (p : Program) (l : Launch) (e : Env) (R : Room) (s : State) (m : MethodId) (args : Array Value) (below : List Frame) (meth : Method) (c : Code) (H : Heap) (locs : List Loc) (cells slots : Nat) (Q : State → Prop) (g : JFrame) (q : Addr) : Prop :=
  ∀ T : State, T.heap = H → Stand p l e R s m args below meth c T locs cells slots → ∃ t, Steps p.tables e below ((T.setTop g).pushFrame (.throwing q)) t ∧ Q t
def vx_Run (p : Program) (l : Launch) (e : Env) (R : Room) (s : State) (m : MethodId) (args : Array Value) (below : List Frame) (meth : Method) (c : Code) (H : Heap) (locs : List Loc) (cells slots mc ms : Nat) (g : JFrame) (rest : List Value) (Qa : State → Outcome → State → Prop) (XC : String → State → State → Prop) (free : Addr → Prop) : Prop :=
  ∀ T : State, T.heap = H → Stand p l e R s m args below meth c T locs cells slots →
    (∃ (v : Option Value) (st₀ t T' : State) (L : List Loc), st₀.heap = H ∧ Stand p l e R s m args below meth c T' (locs ++ L) (cells + mc) (slots + ms) ∧ (∀ q ∈ L, free q.base) ∧ T'.heap = t.heap ∧ T'.vm = t.vm ∧ Qa st₀ (.returned v) t ∧
      Goes p e below T g T' { g with pc := g.pc + 3, stack := v.toList ++ rest }) ∨
    (∃ (q : Addr) (st₀ t T' : State) (L : List Loc) (E : String) (ce : Cell), st₀.heap = H ∧ Stand p l e R s m args below meth c T' (locs ++ L) (cells + mc) (slots + ms) ∧ (∀ z ∈ L, free z.base) ∧ T'.heap = t.heap ∧ T'.vm = t.vm ∧ XC E st₀ t ∧ t.heap[q]? = some ce ∧ ce.vm = .none ∧ s.vm.findClass E = some ce.cls ∧
      Steps p.tables e below (T.setTop g) ((T'.setTop { g with stack := rest }).pushFrame (.throwing q)))
def vx_X {S : Type} (px : S → Prop) (B : String → S → State → Prop) (A : Nat → Prop) : String → State → State → Prop := fun E st t => ∃ u : S, px u ∧ B E u t ∧ va_F A st t
section Runs
variable {p : Program} {l : Launch} {e : Env} {R : Room} {s : State} {m : MethodId} {args : Array Value} {below : List Frame} {meth : Method} {c : Code} {H : Heap} {locs : List Loc} {cells slots : Nat}
variable {y : MethodName} {bytes cc : ByteArray} {maxL nL mc ms n index : Nat} {ret : Option FieldType} {ws : List Cond} {rm : Room} {Pc : Array Value → State → Prop} {Qc : Array Value → State → Outcome → State → Prop} {XC : String → State → State → Prop} {free : Addr → Prop} {Ts : List Cond} {own C : String} {b : Addr} {As rest : List Value} {g : JFrame}
theorem vx_callBack (cb : CallB R s args own index y bytes maxL ret ws rm mc ms n) (hM : vx_Met l y ws rm Pc Qc XC mc ms free) (hbl : FrameBlind Pc) : vx_Back l R p e below s args y 3 8 (PreOf R mc ms Pc) (PostOf Qc mc ms free) (vx_Post XC mc ms free) := by
  obtain ⟨hrc, hrs, hfr, hlo, hws, hcw, -, hini, -⟩ := cb
  exact vx_back (bytes := bytes) (maxL := maxL) (ret := ret) hM hbl hrc hrs hfr hlo hws hcw (fun a' U hW => word_at hW (Or.inl (by first | rfl | simp [Cond.onTables, Cond.keeps, Cond.steady])) hini)
theorem vx_runV (S : CallFix p m c cc nL s args Ts own) (hM : vx_Met l y ws rm Pc Qc XC mc ms free) (cw : CallW R s args own C index y bytes maxL ret ws rm mc ms n) (hp : PreV s H C b Pc As)
    (hg : g.method = m) (hn : As.length = n) (hsize : g.locals.size = nL) (hstack : g.stack = As.reverse ++ .ref b :: rest) (hW : 2 * g.monitorRoom + (rest.map fun v => v.category).sum ≤ 8) (hdg : decode cc g.pc = .ok (.invokevirtual index, 3)) (hf : cells + mc ≤ R.cells ∧ slots + ms ≤ R.slots) :
    vx_Run p l e R s m args below meth c H locs cells slots mc ms g rest (Qc (Value.ref b :: As).toArray) XC free := by
  have hK : vx_Back l R p e below s args y 3 8 (PreOf R mc ms Pc) (PostOf Qc mc ms free) (vx_Post XC mc ms free) := vx_callBack cw.1 hM hp.1
  obtain ⟨⟨-, -, -, -, -, -, hcode, -, hy, hlen, hl⟩, hin, hse⟩ := cw
  obtain ⟨hx, hb, hml, ho, -⟩ := S
  obtain ⟨-, ⟨cellB, hcB, hoB, hclB⟩, hPc⟩ := hp
  intro T hT X
  rcases vx_callV X hx (C := C) (bytes := bytes) (maxL := maxL) (ret := ret) ho hl hin hse hcode hy hK (by rw [hT]; exact hcB) hoB hclB hg (hsize.trans hml.symm) (argsL := As) (rest := rest) (fun sig h => hn.trans (hlen sig h)) hstack hW (by rw [hb]; exact hdg)
    (fun vm₁ hW₁ => ⟨hf.1, hf.2, hPc (T.setVm vm₁) hT hW₁⟩) with ⟨v, vm₁, ⟨U', l2, c2, s2⟩, hW₁, X', ⟨g', mk, t, L, e1, e2, hq, h1, hL, h2, h3⟩, st⟩ | ⟨q, vm₁, ⟨U', l2, c2, s2⟩, hW₁, X', ⟨g', mk, t, L, E, ce, e1, e2, hq, hce, hcv, hcl, h1, hL, h2, h3⟩, st⟩
  · dsimp only [Pt.U, Pt.locs, Pt.cells, Pt.slots] at X' e1 e2 h1 h2 h3 st
    subst h1; subst h2; subst h3
    exact Or.inl ⟨v, (T.setVm vm₁).calling g' mk (Value.ref b :: As).toArray, t, U', L, hT, X', hL, e1, e2, hq, st⟩
  · dsimp only [Pt.U, Pt.locs, Pt.cells, Pt.slots] at X' e1 e2 h1 h2 h3 st hcl
    subst h1; subst h2; subst h3
    exact Or.inr ⟨q, (T.setVm vm₁).calling g' mk (Value.ref b :: As).toArray, t, U', L, E, ce, hT, X', hL, e1, e2, hq, hce, hcv, vx_cls hW₁ hcl, st⟩
theorem vx_runS (S : CallFix p m c cc nL s args Ts own) (hM : vx_Met l y ws rm Pc Qc XC mc ms free) (cw : CallB R s args own index y bytes maxL ret ws rm mc ms n ∧ (Cond.static y).before args s = true) (hp : PreS s H Pc As)
    (hg : g.method = m) (hn : As.length = n) (hsize : g.locals.size = nL) (hstack : g.stack = As.reverse ++ rest) (hW : 2 * g.monitorRoom + (rest.map fun v => v.category).sum ≤ 8) (hdg : decode cc g.pc = .ok (.invokestatic index, 3)) (hf : cells + mc ≤ R.cells ∧ slots + ms ≤ R.slots) :
    vx_Run p l e R s m args below meth c H locs cells slots mc ms g rest (Qc As.toArray) XC free := by
  have hK : vx_Back l R p e below s args y 3 8 (PreOf R mc ms Pc) (PostOf Qc mc ms free) (vx_Post XC mc ms free) := vx_callBack cw.1 hM hp.1
  obtain ⟨⟨-, -, -, -, -, -, hcode, hini, hy, hlen, hl⟩, hstt⟩ := cw
  obtain ⟨hx, hb, hml, ho, -⟩ := S
  intro T hT X
  rcases vx_callS X hx (bytes := bytes) (maxL := maxL) (ret := ret) ho hl hstt hini hcode hy hK hg (hsize.trans hml.symm) (argsL := As) (rest := rest) (fun sig h => hn.trans (hlen sig h)) hstack hW (by rw [hb]; exact hdg)
    (fun vm₁ hW₁ => ⟨hf.1, hf.2, hp.2 (T.setVm vm₁) hT hW₁⟩) with ⟨v, vm₁, ⟨U', l2, c2, s2⟩, hW₁, X', ⟨g', mk, t, L, e1, e2, hq, h1, hL, h2, h3⟩, st⟩ | ⟨q, vm₁, ⟨U', l2, c2, s2⟩, hW₁, X', ⟨g', mk, t, L, E, ce, e1, e2, hq, hce, hcv, hcl, h1, hL, h2, h3⟩, st⟩
  · dsimp only [Pt.U, Pt.locs, Pt.cells, Pt.slots] at X' e1 e2 h1 h2 h3 st
    subst h1; subst h2; subst h3
    exact Or.inl ⟨v, (T.setVm vm₁).calling g' mk As.toArray, t, U', L, hT, X', hL, e1, e2, hq, st⟩
  · dsimp only [Pt.U, Pt.locs, Pt.cells, Pt.slots] at X' e1 e2 h1 h2 h3 st hcl
    subst h1; subst h2; subst h3
    exact Or.inr ⟨q, (T.setVm vm₁).calling g' mk As.toArray, t, U', L, E, ce, hT, X', hL, e1, e2, hq, hce, hcv, vx_cls hW₁ hcl, st⟩
end Runs
section Rows
variable {p : Program} {l : Launch} {e : Env} {R : Room} {s : State} {m : MethodId} {args : Array Value} {below : List Frame} {meth : Method} {c : Code} {H : Heap} {locs : List Loc} {cells slots : Nat} {Q : State → Prop}
variable {mc ms : Nat} {free : Addr → Prop} {A0 A1 : Nat → Prop} {H0 : Heap} {a : Array Value} {pc : Nat} {ls : Array Slot} {st0 rest : List Value}
theorem vx_keep {st₀ t T' : State} {L : List Loc} (h0 : st₀.heap = H) (e1 : T'.heap = t.heap) (hS : va_S A0 H0 H locs) (hA : ∀ q, q < H.size → A1 q → A0 q) (hf : ∀ q, free q → A0 q) (hL : ∀ q ∈ L, free q.base) (hF : va_F A1 st₀ t) :
    H.size ≤ T'.heap.size ∧ (∀ q : Nat, q < H.size → ¬ A1 q → T'.heap[q]? = H[q]?) ∧ va_S A0 H0 T'.heap (locs ++ L) := by
  obtain ⟨hz, hk⟩ := hF
  rw [h0] at hz hk
  exact ⟨by rw [e1]; exact hz, fun q h1 h2 => by rw [e1]; exact hk q h1 h2,
    ⟨Nat.le_trans hS.1 (by rw [e1]; exact hz), fun q h1 h2 => by rw [e1, hk q (Nat.lt_of_lt_of_le h1 hS.1) (fun z => h2 (hA q (Nat.lt_of_lt_of_le h1 hS.1) z))]; exact hS.2.1 q h1 h2, fun q hq => by
      rcases List.mem_append.mp hq with h | h
      · exact hS.2.2 q h
      · exact hf _ (hL q h)⟩⟩
theorem vx_calli {S SX : Type} {post : Int32 → S → Prop} {px : SX → Prop} {B : S → State → Prop} {BX : String → SX → State → Prop} {AX : Nat → Prop} (hr : vx_Run p l e R s m args below meth c H locs cells slots mc ms (F0 m pc ls st0) rest (va_Qi post B A1 a) (vx_X px BX AX) free) (hS : va_S A0 H0 H locs) (hA : ∀ q, q < H.size → A1 q → A0 q) (hf : ∀ q, free q → A0 q) (hAX : ∀ q, q < H.size → AX q → A0 q)
    (kx : ∀ (E : String) (ce : Cell) (q9 : Addr) (u : SX) (t : State) (H1 : Heap) (locs1 : List Loc), t.heap = H1 → s.vm.Alike t.vm → px u → BX E u t → H.size ≤ H1.size → (∀ q : Nat, q < H.size → ¬ AX q → H1[q]? = H[q]?) → va_S A0 H0 H1 locs1 → H1[q9]? = some ce → ce.vm = .none → s.vm.findClass E = some ce.cls → vx_W p l e R s m args below meth c H1 locs1 (cells + mc) (slots + ms) Q (F0 m pc ls rest) q9)
    (kk : ∀ (r : Int32) (u : S) (t : State) (H1 : Heap) (locs1 : List Loc), t.heap = H1 → s.vm.Alike t.vm → post r u → B u t → H.size ≤ H1.size → (∀ q : Nat, q < H.size → ¬ A1 q → H1[q]? = H[q]?) → va_S A0 H0 H1 locs1 → W p l e R s m args below meth c H1 locs1 (cells + mc) (slots + ms) Q (F0 m (pc + 3) ls (.int r :: rest))) : W p l e R s m args below meth c H locs cells slots Q (F0 m pc ls st0) := by
  intro T hT X
  rcases hr T hT X with ⟨v, st₀, t, T', L, h0, X', hL, e1, e2, ⟨⟨r, u, hv, hp, hb⟩, hF⟩, st⟩ | ⟨q, st₀, t, T', L, E, ce, h0, X', hL, e1, e2, ⟨u, hp, hb, hF⟩, hce, hcv, hcl, st⟩
  · cases hv
    obtain ⟨k1, k2, k3⟩ := vx_keep h0 e1 hS hA hf hL hF
    obtain ⟨t2, a1, b1⟩ := kk r u t T'.heap (locs ++ L) e1.symm (by rw [← e2]; exact X'.warmed.alike) hp hb k1 k2 k3 T' rfl X'
    exact ⟨t2, st t2 a1, b1⟩
  · obtain ⟨k1, k2, k3⟩ := vx_keep h0 e1 hS hAX hf hL hF
    obtain ⟨t2, a1, b1⟩ := kx E ce q u t T'.heap (locs ++ L) e1.symm (by rw [← e2]; exact X'.warmed.alike) hp hb k1 k2 k3 (by rw [e1]; exact hce) hcv hcl T' rfl X'
    exact ⟨t2, st.trans a1, b1⟩
theorem vx_calll {S SX : Type} {post : Int64 → S → Prop} {px : SX → Prop} {B : S → State → Prop} {BX : String → SX → State → Prop} {AX : Nat → Prop} (hr : vx_Run p l e R s m args below meth c H locs cells slots mc ms (F0 m pc ls st0) rest (va_Ql post B A1 a) (vx_X px BX AX) free) (hS : va_S A0 H0 H locs) (hA : ∀ q, q < H.size → A1 q → A0 q) (hf : ∀ q, free q → A0 q) (hAX : ∀ q, q < H.size → AX q → A0 q)
    (kx : ∀ (E : String) (ce : Cell) (q9 : Addr) (u : SX) (t : State) (H1 : Heap) (locs1 : List Loc), t.heap = H1 → s.vm.Alike t.vm → px u → BX E u t → H.size ≤ H1.size → (∀ q : Nat, q < H.size → ¬ AX q → H1[q]? = H[q]?) → va_S A0 H0 H1 locs1 → H1[q9]? = some ce → ce.vm = .none → s.vm.findClass E = some ce.cls → vx_W p l e R s m args below meth c H1 locs1 (cells + mc) (slots + ms) Q (F0 m pc ls rest) q9)
    (kk : ∀ (r : Int64) (u : S) (t : State) (H1 : Heap) (locs1 : List Loc), t.heap = H1 → s.vm.Alike t.vm → post r u → B u t → H.size ≤ H1.size → (∀ q : Nat, q < H.size → ¬ A1 q → H1[q]? = H[q]?) → va_S A0 H0 H1 locs1 → W p l e R s m args below meth c H1 locs1 (cells + mc) (slots + ms) Q (F0 m (pc + 3) ls (.long r :: rest))) : W p l e R s m args below meth c H locs cells slots Q (F0 m pc ls st0) := by
  intro T hT X
  rcases hr T hT X with ⟨v, st₀, t, T', L, h0, X', hL, e1, e2, ⟨⟨r, u, hv, hp, hb⟩, hF⟩, st⟩ | ⟨q, st₀, t, T', L, E, ce, h0, X', hL, e1, e2, ⟨u, hp, hb, hF⟩, hce, hcv, hcl, st⟩
  · cases hv
    obtain ⟨k1, k2, k3⟩ := vx_keep h0 e1 hS hA hf hL hF
    obtain ⟨t2, a1, b1⟩ := kk r u t T'.heap (locs ++ L) e1.symm (by rw [← e2]; exact X'.warmed.alike) hp hb k1 k2 k3 T' rfl X'
    exact ⟨t2, st t2 a1, b1⟩
  · obtain ⟨k1, k2, k3⟩ := vx_keep h0 e1 hS hAX hf hL hF
    obtain ⟨t2, a1, b1⟩ := kx E ce q u t T'.heap (locs ++ L) e1.symm (by rw [← e2]; exact X'.warmed.alike) hp hb k1 k2 k3 (by rw [e1]; exact hce) hcv hcl T' rfl X'
    exact ⟨t2, st.trans a1, b1⟩
theorem vx_callf {S SX : Type} {post : UInt32 → S → Prop} {px : SX → Prop} {B : S → State → Prop} {BX : String → SX → State → Prop} {AX : Nat → Prop} (hr : vx_Run p l e R s m args below meth c H locs cells slots mc ms (F0 m pc ls st0) rest (va_Qf post B A1 a) (vx_X px BX AX) free) (hS : va_S A0 H0 H locs) (hA : ∀ q, q < H.size → A1 q → A0 q) (hf : ∀ q, free q → A0 q) (hAX : ∀ q, q < H.size → AX q → A0 q)
    (kx : ∀ (E : String) (ce : Cell) (q9 : Addr) (u : SX) (t : State) (H1 : Heap) (locs1 : List Loc), t.heap = H1 → s.vm.Alike t.vm → px u → BX E u t → H.size ≤ H1.size → (∀ q : Nat, q < H.size → ¬ AX q → H1[q]? = H[q]?) → va_S A0 H0 H1 locs1 → H1[q9]? = some ce → ce.vm = .none → s.vm.findClass E = some ce.cls → vx_W p l e R s m args below meth c H1 locs1 (cells + mc) (slots + ms) Q (F0 m pc ls rest) q9)
    (kk : ∀ (r : UInt32) (u : S) (t : State) (H1 : Heap) (locs1 : List Loc), t.heap = H1 → s.vm.Alike t.vm → post r u → B u t → H.size ≤ H1.size → (∀ q : Nat, q < H.size → ¬ A1 q → H1[q]? = H[q]?) → va_S A0 H0 H1 locs1 → W p l e R s m args below meth c H1 locs1 (cells + mc) (slots + ms) Q (F0 m (pc + 3) ls (.float r :: rest))) : W p l e R s m args below meth c H locs cells slots Q (F0 m pc ls st0) := by
  intro T hT X
  rcases hr T hT X with ⟨v, st₀, t, T', L, h0, X', hL, e1, e2, ⟨⟨r, u, hv, hp, hb⟩, hF⟩, st⟩ | ⟨q, st₀, t, T', L, E, ce, h0, X', hL, e1, e2, ⟨u, hp, hb, hF⟩, hce, hcv, hcl, st⟩
  · cases hv
    obtain ⟨k1, k2, k3⟩ := vx_keep h0 e1 hS hA hf hL hF
    obtain ⟨t2, a1, b1⟩ := kk r u t T'.heap (locs ++ L) e1.symm (by rw [← e2]; exact X'.warmed.alike) hp hb k1 k2 k3 T' rfl X'
    exact ⟨t2, st t2 a1, b1⟩
  · obtain ⟨k1, k2, k3⟩ := vx_keep h0 e1 hS hAX hf hL hF
    obtain ⟨t2, a1, b1⟩ := kx E ce q u t T'.heap (locs ++ L) e1.symm (by rw [← e2]; exact X'.warmed.alike) hp hb k1 k2 k3 (by rw [e1]; exact hce) hcv hcl T' rfl X'
    exact ⟨t2, st.trans a1, b1⟩
theorem vx_calld {S SX : Type} {post : UInt64 → S → Prop} {px : SX → Prop} {B : S → State → Prop} {BX : String → SX → State → Prop} {AX : Nat → Prop} (hr : vx_Run p l e R s m args below meth c H locs cells slots mc ms (F0 m pc ls st0) rest (va_Qd post B A1 a) (vx_X px BX AX) free) (hS : va_S A0 H0 H locs) (hA : ∀ q, q < H.size → A1 q → A0 q) (hf : ∀ q, free q → A0 q) (hAX : ∀ q, q < H.size → AX q → A0 q)
    (kx : ∀ (E : String) (ce : Cell) (q9 : Addr) (u : SX) (t : State) (H1 : Heap) (locs1 : List Loc), t.heap = H1 → s.vm.Alike t.vm → px u → BX E u t → H.size ≤ H1.size → (∀ q : Nat, q < H.size → ¬ AX q → H1[q]? = H[q]?) → va_S A0 H0 H1 locs1 → H1[q9]? = some ce → ce.vm = .none → s.vm.findClass E = some ce.cls → vx_W p l e R s m args below meth c H1 locs1 (cells + mc) (slots + ms) Q (F0 m pc ls rest) q9)
    (kk : ∀ (r : UInt64) (u : S) (t : State) (H1 : Heap) (locs1 : List Loc), t.heap = H1 → s.vm.Alike t.vm → post r u → B u t → H.size ≤ H1.size → (∀ q : Nat, q < H.size → ¬ A1 q → H1[q]? = H[q]?) → va_S A0 H0 H1 locs1 → W p l e R s m args below meth c H1 locs1 (cells + mc) (slots + ms) Q (F0 m (pc + 3) ls (.double r :: rest))) : W p l e R s m args below meth c H locs cells slots Q (F0 m pc ls st0) := by
  intro T hT X
  rcases hr T hT X with ⟨v, st₀, t, T', L, h0, X', hL, e1, e2, ⟨⟨r, u, hv, hp, hb⟩, hF⟩, st⟩ | ⟨q, st₀, t, T', L, E, ce, h0, X', hL, e1, e2, ⟨u, hp, hb, hF⟩, hce, hcv, hcl, st⟩
  · cases hv
    obtain ⟨k1, k2, k3⟩ := vx_keep h0 e1 hS hA hf hL hF
    obtain ⟨t2, a1, b1⟩ := kk r u t T'.heap (locs ++ L) e1.symm (by rw [← e2]; exact X'.warmed.alike) hp hb k1 k2 k3 T' rfl X'
    exact ⟨t2, st t2 a1, b1⟩
  · obtain ⟨k1, k2, k3⟩ := vx_keep h0 e1 hS hAX hf hL hF
    obtain ⟨t2, a1, b1⟩ := kx E ce q u t T'.heap (locs ++ L) e1.symm (by rw [← e2]; exact X'.warmed.alike) hp hb k1 k2 k3 (by rw [e1]; exact hce) hcv hcl T' rfl X'
    exact ⟨t2, st.trans a1, b1⟩
theorem vx_callv {S SX : Type} {post : S → Prop} {px : SX → Prop} {B : S → State → Prop} {BX : String → SX → State → Prop} {AX : Nat → Prop} (hr : vx_Run p l e R s m args below meth c H locs cells slots mc ms (F0 m pc ls st0) rest (va_Qv post B A1 a) (vx_X px BX AX) free) (hS : va_S A0 H0 H locs) (hA : ∀ q, q < H.size → A1 q → A0 q) (hf : ∀ q, free q → A0 q) (hAX : ∀ q, q < H.size → AX q → A0 q)
    (kx : ∀ (E : String) (ce : Cell) (q9 : Addr) (u : SX) (t : State) (H1 : Heap) (locs1 : List Loc), t.heap = H1 → s.vm.Alike t.vm → px u → BX E u t → H.size ≤ H1.size → (∀ q : Nat, q < H.size → ¬ AX q → H1[q]? = H[q]?) → va_S A0 H0 H1 locs1 → H1[q9]? = some ce → ce.vm = .none → s.vm.findClass E = some ce.cls → vx_W p l e R s m args below meth c H1 locs1 (cells + mc) (slots + ms) Q (F0 m pc ls rest) q9)
    (kk : ∀ (u : S) (t : State) (H1 : Heap) (locs1 : List Loc), t.heap = H1 → s.vm.Alike t.vm → post u → B u t → H.size ≤ H1.size → (∀ q : Nat, q < H.size → ¬ A1 q → H1[q]? = H[q]?) → va_S A0 H0 H1 locs1 → W p l e R s m args below meth c H1 locs1 (cells + mc) (slots + ms) Q (F0 m (pc + 3) ls (rest))) : W p l e R s m args below meth c H locs cells slots Q (F0 m pc ls st0) := by
  intro T hT X
  rcases hr T hT X with ⟨v, st₀, t, T', L, h0, X', hL, e1, e2, ⟨⟨u, hv, hp, hb⟩, hF⟩, st⟩ | ⟨q, st₀, t, T', L, E, ce, h0, X', hL, e1, e2, ⟨u, hp, hb, hF⟩, hce, hcv, hcl, st⟩
  · cases hv
    obtain ⟨k1, k2, k3⟩ := vx_keep h0 e1 hS hA hf hL hF
    obtain ⟨t2, a1, b1⟩ := kk u t T'.heap (locs ++ L) e1.symm (by rw [← e2]; exact X'.warmed.alike) hp hb k1 k2 k3 T' rfl X'
    exact ⟨t2, st t2 a1, b1⟩
  · obtain ⟨k1, k2, k3⟩ := vx_keep h0 e1 hS hAX hf hL hF
    obtain ⟨t2, a1, b1⟩ := kx E ce q u t T'.heap (locs ++ L) e1.symm (by rw [← e2]; exact X'.warmed.alike) hp hb k1 k2 k3 (by rw [e1]; exact hce) hcv hcl T' rfl X'
    exact ⟨t2, st.trans a1, b1⟩
/-- caught by the row x of this method's table; the rows ahead don't take it -/
theorem vx_catch {own name : String} {E : String} {ce : Cell} {q : Addr} (hown : s.vm.findClass own = some m.cls) (pre : List ExceptionTableEntry) (x : ExceptionTableEntry) (suf : List ExceptionTableEntry) (hsplit : c.exceptionTable.toList = pre ++ x :: suf)
    (hpass : ∀ z ∈ pre, covers z pc = false ∨ (z.catchType ≠ 0 ∧ ∃ nm : String, (Cond.classLink own z.catchType nm).before args s = true ∧ va_Nc E nm s)) (hx : covers x pc = true) (h0 : x.catchType ≠ 0)
    (hlink : (Cond.classLink own x.catchType name).before args s = true) (hcast : (Cond.castable E name).before args s = true) (hcell : H[q]? = some ce) (hv : ce.vm = .none) (hcl : s.vm.findClass E = some ce.cls)
    (kk : W p l e R s m args below meth c H locs cells slots Q (F0 m x.handlerPc ls [.ref q])) : vx_W p l e R s m args below meth c H locs cells slots Q (F0 m pc ls rest) q := by
  intro T hT X
  have hpl : e.platform.magicAccessors = ({} : Platform).magicAccessors := by rw [X.admits.platform]
  obtain ⟨c3, c4, hc3, hc4, hasg⟩ := Cond.castable_spec hcast
  cases Option.some.inj (hc3.symm.trans hcl)
  obtain ⟨c5, hc5, hcl5⟩ := Cond.classLink_spec hown hlink e.platform hpl
  cases Option.some.inj (hc4.symm.trans hc5)
  obtain ⟨vm', X', st⟩ := X.thenCaughtThrough q (g := F0 m pc ls rest) rfl (Steps.refl _) (by rw [hT]; exact hcell) (by rw [hv]; rfl) (by obtain ⟨k9, h9, -⟩ := Vm.findClass_spec hcl; exact ⟨k9, h9⟩) pre x suf hsplit
    (fun z hz => by
      rcases hpass z hz with h | ⟨hz0, nm, hl1, hn1⟩
      · exact Or.inl h
      · obtain ⟨c6, hc6, hcl6⟩ := Cond.classLink_spec hown hl1 e.platform hpl
        obtain ⟨a8, b8, h1, h2, h3⟩ := hn1
        cases Option.some.inj (h1.symm.trans hcl)
        cases Option.some.inj (h2.symm.trans hc6)
        exact Or.inr ⟨hz0, _, hcl6, h3⟩) hx (Or.inr ⟨h0, c4, hcl5, hasg⟩)
  obtain ⟨t, a1, b1⟩ := kk (T.setVm vm') hT X'
  exact ⟨t, st.trans a1, b1⟩
end Rows
section Ends
variable {p : Program} {l : Launch} {e : Env} {R : Room} {s : State} {m : MethodId} {args : Array Value} {below : List Frame} {meth : Method} {c : Code} {H : Heap} {locs : List Loc} {cells slots : Nat} {Q : State → Prop}
variable {mc ms : Nat} {free : Addr → Prop} {A0 A1 : Nat → Prop} {H0 : Heap} {a : Array Value} {ls : Array Slot} {st0 rest : List Value}
variable {Qc : Array Value → State → Outcome → State → Prop} {XC : String → State → State → Prop}
/-- what a body that may throw owes at its end -/
def vx_MQ (below : List Frame) (Qc : Array Value → State → Outcome → State → Prop) (XC : String → State → State → Prop) (a : Array Value) (s : State) (mc ms : Nat) (free : Addr → Prop) : State → Prop := fun t =>
  ∃ o, t.status = .running ∧ Ended t below o ∧ vx_Q Qc XC mc ms free a s o t
theorem vx_ret {g : JFrame} {mc ms : Nat} (k : W p l e R s m args below meth c H locs cells slots (MQ below Qc args s mc ms free) g) : W p l e R s m args below meth c H locs cells slots (vx_MQ below Qc XC args s mc ms free) g := by
  intro T hT X
  obtain ⟨t, a1, o, b1, b2, b3, b4⟩ := k T hT X
  exact ⟨t, a1, o, b1, b2, Or.inl ⟨b3, b4⟩⟩
/-- not caught here: it goes on to the caller -/
theorem vx_widen {g : JFrame} {q : Addr} {k n : Nat} (h1 : cells ≤ k) (h2 : slots ≤ n) (kk : vx_W p l e R s m args below meth c H locs k n Q g q) : vx_W p l e R s m args below meth c H locs cells slots Q g q := fun T hT X => kk T hT (stand_widen X h1 h2)
theorem vx_out {pc : Nat} {E : String} {ce : Cell} {q : Addr} {mc ms : Nat} (hout : ∀ x ∈ c.exceptionTable.toList, covers x pc = false) (hlocks : meth.locks = false) (hcell : H[q]? = some ce) (hv : ce.vm = .none) (hcl : s.vm.findClass E = some ce.cls)
    (hx : ∀ t : State, t.heap = H → s.vm.Alike t.vm → XC E s t) (hf : ∀ z ∈ locs, free z.base) (hc : cells ≤ mc) (hs : slots ≤ ms) :
    vx_W p l e R s m args below meth c H locs cells slots (vx_MQ below Qc XC args s mc ms free) (F0 m pc ls rest) q := by
  intro T hT X
  obtain ⟨st1, hrun, hend, hW, hsm⟩ := X.leaveThrown q (g := F0 m pc ls rest) rfl rfl rfl hout hlocks
  have hcell9 : (T.setFrames (.throwing q :: below)).heap[q]? = some ce := by
    show T.heap[q]? = some ce
    rw [hT]; exact hcell
  exact ⟨_, st1, .threw q, hrun, hend, Or.inr ⟨q, rfl, E, ce, locs, hx _ hT hW.alike, hcell9, hv, hcl, hW, hsm.mono hc hs, hf⟩⟩
theorem vx_frame {U : State} {k n : Nat} (h : s.sameButNew ({ U with vm := s.vm } : State) locs k n) : s.heap.size ≤ U.heap.size ∧ ∀ q : Nat, q < s.heap.size → (∀ z ∈ locs, z.base ≠ q) → U.heap[q]? = s.heap[q]? := by
  obtain ⟨-, h2, -, -, -, h6⟩ := h
  refine ⟨h2, fun q hq hz => ?_⟩
  obtain ⟨c9, e1, e2, e3, e4⟩ := h6 q _ (Array.getElem?_eq_getElem hq)
  have hs : c9.slots = (s.heap[q]).slots := Array.ext_getElem? fun i => e4 i fun hm => hz _ hm rfl
  have h9 : c9 = s.heap[q] := by
    rw [hs] at e2
    exact e2
  have e5 : U.heap[q]? = some c9 := e1
  rw [e5, h9, Array.getElem?_eq_getElem hq]
/-- the words of a throw but the four that speak of the heap -/
def vx_no (w : Cond) : Bool := decide (w ≠ .isRef (.static Bundle.tN "UNASSIGNED_STACK" Bundle.steD)) && decide (w ≠ .isRef (.static Bundle.tN "SUPPRESSED_SENTINEL" Bundle.listD)) && decide (w ≠ .laysStatic Bundle.tN "UNASSIGNED_STACK" Bundle.steD) && decide (w ≠ .laysStatic Bundle.tN "SUPPRESSED_SENTINEL" Bundle.listD)
def vx_at0 (own : String) (ic : Nat) (X : String) (names : List String) : List Cond := (Bundle.ownAtoms0 own ic X names).filter vx_no
def vx_atS (own : String) (ic : Nat) (X : String) (names : List String) : List Cond := (Bundle.ownAtoms own ic X names).filter vx_no
/-- a word that the tables alone decide, or a good one -/
def vx_ot (w : Cond) : Bool := w.onTables || goodWord w
theorem vx_ot_at {args a' : Array Value} {s U : State} {w : Cond} (hW : s.WarmedH U.vm) (hvm : s.vm = U.vm) (hg : vx_ot w = true) (h : w.before args s = true) : w.before a' U = true := by
  simp only [vx_ot, Bool.or_eq_true] at hg
  rcases hg with hg | hg
  · exact va_tabs hg hvm h
  · exact word_at hW (good_of_word hg) h
/-- a list's words: the good ones out of the method's own list, the others by premises of their own -/
theorem vx_hat {args : Array Value} {s : State} {L B : List Cond} (h1 : ∀ w ∈ L.filter goodWord, w.before args s = true) (h2 : ∀ w ∈ L.filter (fun w => !goodWord w), w ∈ B) (h3 : ∀ w ∈ B, w.before args s = true) : ∀ w ∈ L, w.before args s = true := by
  intro w hw
  by_cases g : goodWord w = true
  · exact h1 w (List.mem_filter.mpr ⟨hw, g⟩)
  · refine h3 w (h2 w (List.mem_filter.mpr ⟨hw, ?_⟩))
    show (!goodWord w) = true
    cases hgw : goodWord w
    · rfl
    · exact absurd hgw g
theorem vx_c {args : Array Value} {s : State} {w : Cond} {B : List Cond} (h : w.before args s = true) (t : ∀ w ∈ B, w.before args s = true) : ∀ w' ∈ w :: B, w'.before args s = true := fun w' h' => (List.mem_cons.mp h').elim (fun e => by rw [e]; exact h) (t w')
theorem vx_n {args : Array Value} {s : State} : ∀ w ∈ ([] : List Cond), w.before args s = true := fun _ h => nomatch h
theorem vx_own {args : Array Value} {s : State} {L : List Cond} (h1 : ∀ w ∈ L.filter vx_no, w.before args s = true)
    (hU : (Cond.isRef (.static Bundle.tN "UNASSIGNED_STACK" Bundle.steD)).before args s = true) (hN : (Cond.isRef (.static Bundle.tN "SUPPRESSED_SENTINEL" Bundle.listD)).before args s = true)
    (lU : (Cond.laysStatic Bundle.tN "UNASSIGNED_STACK" Bundle.steD).before args s = true) (lN : (Cond.laysStatic Bundle.tN "SUPPRESSED_SENTINEL" Bundle.listD).before args s = true) : ∀ w ∈ L, w.before args s = true := by
  intro w hw
  by_cases e1 : w = .isRef (.static Bundle.tN "UNASSIGNED_STACK" Bundle.steD)
  · rw [e1]; exact hU
  · by_cases e2 : w = .isRef (.static Bundle.tN "SUPPRESSED_SENTINEL" Bundle.listD)
    · rw [e2]; exact hN
    · by_cases e3 : w = .laysStatic Bundle.tN "UNASSIGNED_STACK" Bundle.steD
      · rw [e3]; exact lU
      · by_cases e4 : w = .laysStatic Bundle.tN "SUPPRESSED_SENTINEL" Bundle.listD
        · rw [e4]; exact lN
        · exact h1 w (List.mem_filter.mpr ⟨hw, by unfold vx_no; rw [decide_eq_true e1, decide_eq_true e2, decide_eq_true e3, decide_eq_true e4]; rfl⟩)
/-- where a static field lies, its class's statics cell in H -/
def vx_L (C n d : String) (A : Nat → Prop) (U : State) (H : Heap) : Prop := ∃ (c : ClassId) (k : Class) (i : Nat) (f : Field) (a : Nat) (cell : Cell), U.vm.findClass C = some c ∧ U.fieldFound? C n d = some (c, k, i, f) ∧ f.isStatic = true ∧ k.statics = some a ∧ H[a]? = some cell ∧ cell.vm.isStatics = true ∧ cell.cls = c ∧ f.slot < cell.slots.size ∧ k.staticTypes[f.slot]? = some f.type ∧ ¬ A a
theorem vx_L.moved {C n d : String} {A : Nat → Prop} {u U : State} {H : Heap} (hvm : u.vm.Alike U.vm) (h : vx_L C n d A u H) : vx_L C n d A U H := by
  obtain ⟨c, k, i, f, a, cell, h1, h2, h3, h4, h5, h6, h7, h8, h9, h10⟩ := h
  obtain ⟨k', hi', he⟩ := State.fieldFound?_setVm hvm h2
  exact ⟨c, k', i, f, a, cell, by rw [hvm.findClass]; exact h1, hi', h3, by rw [he]; exact h4, h5, h6, h7, h8, by rw [he]; exact h9, h10⟩
theorem vx_L.kept {C n d : String} {A : Nat → Prop} {U : State} {H H1 : Heap} (h : vx_L C n d A U H) (hq : ∀ a : Nat, a < H.size → ¬ A a → H1[a]? = H[a]?) : vx_L C n d A U H1 := by
  obtain ⟨c, k, i, f, a, cell, h1, h2, h3, h4, h5, h6, h7, h8, h9, h10⟩ := h
  exact ⟨c, k, i, f, a, cell, h1, h2, h3, h4, by rw [hq a (Array.getElem?_eq_some_iff.mp h5).1 h10]; exact h5, h6, h7, h8, h9, h10⟩
theorem vx_L.narrow {C n d : String} {A B : Nat → Prop} {U : State} {H : Heap} (h : vx_L C n d A U H) (hAB : ∀ q, B q → A q) : vx_L C n d B U H := by
  obtain ⟨c, k, i, f, a, cell, h1, h2, h3, h4, h5, h6, h7, h8, h9, h10⟩ := h
  exact ⟨c, k, i, f, a, cell, h1, h2, h3, h4, h5, h6, h7, h8, h9, fun z => h10 (hAB _ z)⟩
theorem vx_L.word {C n d : String} {A : Nat → Prop} {s : State} {args : Array Value} (h : vx_L C n d A s s.heap) : (Cond.laysStatic C n d).before args s = true := by
  obtain ⟨c, k, i, f, a, cell, h1, h2, h3, h4, h5, h6, h7, h8, h9, -⟩ := h
  show (Cond.laysStatic C n d).holds args s none s [] = true
  exact Cond.laysStatic_of h1 h2 h3 h4 h5 h6 h7 h8 h9
/-- .. and what it holds: null or some reference -/
def vx_Zq (C n d : String) (A : Nat → Prop) (U : State) (H : Heap) : Prop := va_Zq C n d A U H ∧ vx_L C n d A U H
theorem vx_Zq.moved {C n d : String} {A : Nat → Prop} {u U : State} {H : Heap} (hvm : u.vm.Alike U.vm) (h : vx_Zq C n d A u H) : vx_Zq C n d A U H := ⟨va_Zq.moved hvm h.1, vx_L.moved hvm h.2⟩
theorem vx_Zq.kept {C n d : String} {A : Nat → Prop} {U : State} {H H1 : Heap} (h : vx_Zq C n d A U H) (hq : ∀ a : Nat, a < H.size → ¬ A a → H1[a]? = H[a]?) : vx_Zq C n d A U H1 := ⟨va_Zq.kept h.1 hq, vx_L.kept h.2 hq⟩
theorem vx_Zq.narrow {C n d : String} {A B : Nat → Prop} {U : State} {H : Heap} (h : vx_Zq C n d A U H) (hAB : ∀ q, B q → A q) : vx_Zq C n d B U H := ⟨va_Zq.narrow h.1 hAB, vx_L.narrow h.2 hAB⟩
theorem vx_Zqof {args : Array Value} {s : State} {C n d : String} {A : Nat → Prop} (hl : (Cond.laysStatic C n d).before args s = true) (hini : (Cond.initialized C).before args s = true) (h : (Cond.isRef (.static C n d)).before args s = true) (hA : ∀ a : Nat, a < s.heap.size → ¬ A a) : vx_Zq C n d A s s.heap := by
  refine ⟨va_Zqof hl hini h hA, ?_⟩
  obtain ⟨c, k, i, f, a, cell, h1, h2, h3, h4, h5, h6, h7, h8, h9⟩ := Cond.laysStatic_spec hl
  exact ⟨c, k, i, f, a, cell, h1, h2, h3, h4, h5, h6, h7, h8, h9, hA a (Array.getElem?_eq_some_iff.mp h5).1⟩
theorem vx_isRef {C n d : String} {v : Value} {A : Nat → Prop} {s : State} {args : Array Value} (h : va_Z C n d v A s s.heap) (hv : v.isRef = true) : (Cond.isRef (.static C n d)).before args s = true := by
  obtain ⟨cf, kf, fi, f, a, cell, h1, h2, h3, h4, h5, h6, h7, -⟩ := h
  have he : (Term.static C n d).eval args s none [] s = some v := by
    simp [Term.eval, State.fieldNamed?, h1, h2, h4, h5, h6, h7]
  simp only [Cond.before, Cond.holds, Cond.value, he]
  cases v <;> simp_all [Value.isRef]
theorem vx_isRefq {C n d : String} {A : Nat → Prop} {s : State} {args : Array Value} (h : va_Zq C n d A s s.heap) : (Cond.isRef (.static C n d)).before args s = true := by
  rcases h with h | ⟨t, h⟩
  · exact vx_isRef h rfl
  · exact vx_isRef h rfl
/-- the same frame, seen from here: as if the method were called anew in this heap -/
theorem vx_rebase {T : State} (X : Stand p l e R s m args below meth c T locs cells slots) {R' : Room} (hf : R'.frames ≤ R.frames) (hl : R'.locals ≤ R.locals) (hc : cells + R'.cells ≤ R.cells) (hs : slots + R'.slots ≤ R.slots) :
    Stand p l e R' ((T.setVm s.vm).setFrames (.invoking m args :: below)) m args below meth c T [] 0 0 := by
  have htop : (T.setVm s.vm).topJava?.isSome := X.here.top
  have hF : ((T.setVm s.vm).setFrames (.invoking m args :: below)).frames = .invoking m args :: below := State.frames_setFrames _ (State.cur_lt_of_top htop)
  obtain ⟨g₀, hg0⟩ := Option.isSome_iff_exists.mp htop
  obtain ⟨r, hr⟩ := State.topJava?_eq_some.mp hg0
  have hl9 : e.platform.stackLimits (T.setVm s.vm).me = e.platform.stackLimits s.me := X.limits
  have hb9 : (T.setVm s.vm).me.stackBytes = s.me.stackBytes := X.bytes
  refine ⟨X.admits, X.cas, X.clock, hF, ?_, X.hears, X.method, X.code, X.here, X.tail, X.warmed, ?_, ?_, ?_⟩
  · have h := X.room
    have hU : ((T.setVm s.vm).setFrames (.invoking m args :: below)).localsInUse = s.localsInUse := by
      rw [State.localsInUse_invoking hF (meth := meth) (c := c) X.method X.code, State.localsInUse_invoking X.frames X.method X.code]
    simp only [State.hasRoom, Bool.and_eq_true, decide_eq_true_eq] at h ⊢
    obtain ⟨⟨⟨⟨h1, h2, h3, h4, h5, h6⟩, h7⟩, h8⟩, h9⟩ := h
    rw [X.frames, List.length_cons] at h2 h3
    have q1 := X.heapSize
    have q2 := X.used
    simp only [hF, hU, List.length_cons, State.stackLimits_setFrames, State.stackBytes_setFrames, hl9, hb9]
    refine ⟨⟨⟨⟨by omega, by omega, by omega, by omega, by omega, h6⟩, ?_⟩, ?_⟩, X.book⟩
    · show T.heap.size + R'.cells ≤ e.platform.maxCells
      omega
    · show T.slotsUsed + R'.slots ≤ e.platform.maxSlots
      omega
  · rw [State.stackLimits_setFrames]; rfl
  · rw [State.stackBytes_setFrames]; rfl
  · refine ⟨?_, Nat.le_refl _, Nat.le_refl _, ?_, ?_, fun a c9 h9 => ⟨c9, h9, rfl, rfl, fun _ _ => rfl⟩⟩
    · obtain ⟨t, ht, -⟩ := State.frames_cons hr
      show T.setVm s.vm = { ((T.setVm s.vm).setFrames (.invoking m args :: below)).setFrames (T.setVm s.vm).frames with heap := T.heap, slotsUsed := T.slotsUsed }
      rw [State.setFrames_setFrames, State.setFrames_self ht]
      rfl
    · show T.slotsUsed = T.slotsUsed + ((T.heap.toList.drop T.heap.size).map (·.slots.size)).sum
      rw [List.drop_eq_nil_of_le (Nat.le_of_eq Array.length_toList)]
      rfl
    · show ((T.heap.toList.drop T.heap.size).map (·.slots.size)).sum ≤ 0
      rw [List.drop_eq_nil_of_le (Nat.le_of_eq Array.length_toList)]
      exact Nat.le_refl _
/-- 'throw new E()': new; dup; invokespecial; athrow -/
theorem vx_throw0 {cc : ByteArray} {pc : Nat} (hexec : p.tables.exec = Jvm.exec) (hb : c.code = cc) (hl : l.stackTraces = false) {own cls : String} {names : List String} {ik ic mc ms : Nat} {A : Nat → Prop}
    (hown : s.vm.findClass own = some m.cls) (hcls : Bundle.fit cls = true) (hnames : ∀ n ∈ names, Bundle.fit n = true)
    (hk : (Cond.classLink own ik cls).before args s = true) (hini : (Cond.initialized cls).before args s = true) (hat : ∀ w ∈ vx_at0 own ic cls names, w.before args s = true)
    (hgood : ∀ w ∈ Cond.classLink own ik cls :: Cond.initialized cls :: vx_at0 own ic cls names, vx_ot w = true)
    (hU : vx_Zq Bundle.tN "UNASSIGNED_STACK" Bundle.steD A s s.heap) (hN : vx_Zq Bundle.tN "SUPPRESSED_SENTINEL" Bundle.listD A s s.heap) (hS : va_S A s.heap H locs) (hsize : ls.size = c.maxLocals)
    (d0 : decode cc pc = .ok (.new ik, 3)) (d3 : decode cc (pc + 3) = .ok (.dup, 1)) (d4 : decode cc (pc + 4) = .ok (.invokespecial ic, 3)) (d7 : decode cc (pc + 7) = .ok (.athrow, 1))
    (hout : ∀ x ∈ c.exceptionTable.toList, covers x (pc + 7) = false)
    (hRframes : names.length + 3 < R.frames) (hRlocals : (rest.map fun v => v.category).sum + (13 * (names.length + 1) + 42) ≤ R.locals) (hRcells : cells + 1 ≤ R.cells) (hRslots : slots + 6 ≤ R.slots) (hlocks : meth.locks = false)
    (hx : ∀ t : State, s.vm.Alike t.vm → H.size ≤ t.heap.size → (∀ q : Nat, q < H.size → t.heap[q]? = H[q]?) → XC cls s t)
    (hf : ∀ z ∈ locs, free z.base) (hc : cells + 1 ≤ mc) (hs : slots + 6 ≤ ms) :
    W p l e R s m args below meth c H locs cells slots (vx_MQ below Qc XC args s mc ms free) (F0 m pc ls rest) := by
  intro T hT X
  have htr : e.platform.stackTraces = false := (show e.platform.stackTraces = l.stackTraces by rw [X.admits.platform]).trans hl
  have Y := vx_rebase X (R' := { frames := R.frames, locals := R.locals, cells := 1, slots := 6 }) (Nat.le_refl _) (Nat.le_refl _) hRcells hRslots
  obtain ⟨s', hA⟩ : ∃ z, z = (T.setVm s.vm).setFrames (.invoking m args :: below) := ⟨_, rfl⟩
  rw [← hA] at Y
  have hvm : s'.vm = s.vm := by rw [hA]; rfl
  have hhp : s'.heap = H := by rw [hA]; exact hT
  have hW0 : s.WarmedH s'.vm := by rw [hvm]; exact State.WarmedH.refl s
  have hat' : ∀ w ∈ vx_at0 own ic cls names, w.before args s' = true := fun w hw => vx_ot_at hW0 hvm.symm (hgood w (List.mem_cons_of_mem _ (List.mem_cons_of_mem _ hw))) (hat w hw)
  have hk' : (Cond.classLink own ik cls).before args s' = true := vx_ot_at hW0 hvm.symm (hgood _ List.mem_cons_self) hk
  have hini' : (Cond.initialized cls).before args s' = true := vx_ot_at hW0 hvm.symm (hgood _ (List.mem_cons_of_mem _ List.mem_cons_self)) hini
  have hU' : vx_Zq Bundle.tN "UNASSIGNED_STACK" Bundle.steD A s' s'.heap := by rw [hhp]; exact vx_Zq.moved hW0.alike (hU.kept hS.2.1)
  have hN' : vx_Zq Bundle.tN "SUPPRESSED_SENTINEL" Bundle.listD A s' s'.heap := by rw [hhp]; exact vx_Zq.moved hW0.alike (hN.kept hS.2.1)
  have h : ∀ w ∈ Bundle.ownAtoms0 own ic cls names, w.before args s' = true := vx_own hat' (vx_isRefq hU'.1) (vx_isRefq hN'.1) hU'.2.word hN'.2.word
  have hown' : s'.vm.findClass own = some m.cls := by rw [hvm]; exact hown
  have hins : (Cond.instantiable cls 6).before args s' = true := h _ (by simp [Bundle.ownAtoms0])
  obtain ⟨vm₁, cX, kX, hfX, hkX, -, -, X₁, st1⟩ := Y.newCold hexec (own := own) (C := cls) (index := ik) (n := 6) hown' hk' hins hini'
    (g := F0 m pc ls rest) rfl (by rw [hb]; exact d0) (Nat.le_refl _) (Nat.le_refl _)
  generalize hT1 : (T.setVm vm₁).pushCell { cls := cX, slots := kX.instanceTypes.map defaultValue, vm := .none } = T1 at X₁ st1
  have hcat : (Value.ref T.heap.size).category = 1 := rfl
  have hcellA : T1.heap[T.heap.size]? = some (freshCell cX kX) := by rw [← hT1]; exact State.heap_pushCell_size _ _
  have d3' : decode c.code (pc + 3) = .ok (.dup, 1) := by rw [hb]; exact d3
  obtain ⟨U, hsteps, hrun, hend, hW, hsame, ce, hce, hO⟩ := X₁.ctorThrow0 hexec htr (own := own) (cls := cls) (names := names) (ic := ic) hown' hcls hnames h (fun x hx => nomatch hx) hfX hkX hcellA (by rw [hhp, hT]; exact Nat.le_refl _)
    (g := { method := m, pc := pc + 4, locals := ls, stack := .ref T.heap.size :: .ref T.heap.size :: rest, locked := none }) rfl hsize rfl rfl (rest := rest) rfl
    (by rw [hb]; exact d4) (by rw [hb]; exact d7) hout hRframes (by simp only [List.map_cons, List.sum_cons, hcat]; omega) hlocks
  obtain ⟨f1, f2⟩ := vx_frame hsame
  rw [hhp] at f1 f2
  have hWs : s.WarmedH U.vm := State.WarmedH.trans hW0 hW
  have hcl : s.vm.findClass cls = some ce.cls := by
    have h9 := hO.cls
    rw [hvm] at h9
    exact h9
  have hall : s.sameButNew ({ U with vm := s.vm } : State) locs mc ms := by
    subst hA
    obtain ⟨e1, e2⟩ := hsame
    rw [State.setFrames_setFrames] at e1
    have h2 : (T.setVm s.vm).sameButNew ({ U with vm := s.vm } : State) [] (0 + 1) (0 + 6) := ⟨e1, e2⟩
    have h3 := X.same.trans h2
    rw [List.append_nil] at h3
    exact h3.mono hc hs
  refine ⟨U, ?_, .threw T.heap.size, hrun, hend, Or.inr ⟨T.heap.size, rfl, cls, ce, locs, hx U hWs.alike f1 (fun q hq => f2 q hq (fun z hz => nomatch hz)), hce, hO.vm, hcl, hWs, hall, hf⟩⟩
  refine st1 _ ?_
  show Steps p.tables e below (T1.setTop { method := m, pc := pc + 3, locals := ls, stack := .ref T.heap.size :: rest, locked := none }) _
  jvm_step X₁.here [X₁.here.top, hexec, d3', Value.category]
  exact hsteps
/-- 'throw new E("text")': new; dup; ldc; invokespecial; athrow -/
theorem vx_throwS {cc : ByteArray} {pc : Nat} (hexec : p.tables.exec = Jvm.exec) (hb : c.code = cc) (hl : l.stackTraces = false) {own cls text : String} {names : List String} {ik is ic mc ms sa : Nat} {A : Nat → Prop}
    (hown : s.vm.findClass own = some m.cls) (hcls : Bundle.fit cls = true) (hnames : ∀ n ∈ names, Bundle.fit n = true)
    (hk : (Cond.classLink own ik cls).before args s = true) (hini : (Cond.initialized cls).before args s = true) (hstr : vk_R own is text sa s) (hat : ∀ w ∈ vx_atS own ic cls names, w.before args s = true)
    (hgood : ∀ w ∈ Cond.classLink own ik cls :: Cond.initialized cls :: vx_atS own ic cls names, vx_ot w = true)
    (hU : vx_Zq Bundle.tN "UNASSIGNED_STACK" Bundle.steD A s s.heap) (hN : vx_Zq Bundle.tN "SUPPRESSED_SENTINEL" Bundle.listD A s s.heap) (hS : va_S A s.heap H locs) (hsize : ls.size = c.maxLocals)
    (d0 : decode cc pc = .ok (.new ik, 3)) (d3 : decode cc (pc + 3) = .ok (.dup, 1)) (d4 : decode cc (pc + 4) = .ok (.ldc is, 2)) (d6 : decode cc (pc + 6) = .ok (.invokespecial ic, 3)) (d9 : decode cc (pc + 9) = .ok (.athrow, 1))
    (hout : ∀ x ∈ c.exceptionTable.toList, covers x (pc + 9) = false)
    (hRframes : names.length + 3 < R.frames) (hRlocals : (rest.map fun v => v.category).sum + (13 * (names.length + 1) + 43) ≤ R.locals) (hRcells : cells + 1 ≤ R.cells) (hRslots : slots + 6 ≤ R.slots) (hlocks : meth.locks = false)
    (hx : ∀ t : State, s.vm.Alike t.vm → H.size ≤ t.heap.size → (∀ q : Nat, q < H.size → t.heap[q]? = H[q]?) → XC cls s t)
    (hf : ∀ z ∈ locs, free z.base) (hc : cells + 1 ≤ mc) (hs : slots + 6 ≤ ms) :
    W p l e R s m args below meth c H locs cells slots (vx_MQ below Qc XC args s mc ms free) (F0 m pc ls rest) := by
  intro T hT X
  have htr : e.platform.stackTraces = false := (show e.platform.stackTraces = l.stackTraces by rw [X.admits.platform]).trans hl
  have Y := vx_rebase X (R' := { frames := R.frames, locals := R.locals, cells := 1, slots := 6 }) (Nat.le_refl _) (Nat.le_refl _) hRcells hRslots
  obtain ⟨s', hA⟩ : ∃ z, z = (T.setVm s.vm).setFrames (.invoking m args :: below) := ⟨_, rfl⟩
  rw [← hA] at Y
  have hvm : s'.vm = s.vm := by rw [hA]; rfl
  have hhp : s'.heap = H := by rw [hA]; exact hT
  have hW0 : s.WarmedH s'.vm := by rw [hvm]; exact State.WarmedH.refl s
  have hat' : ∀ w ∈ vx_atS own ic cls names, w.before args s' = true := fun w hw => vx_ot_at hW0 hvm.symm (hgood w (List.mem_cons_of_mem _ (List.mem_cons_of_mem _ hw))) (hat w hw)
  have hk' : (Cond.classLink own ik cls).before args s' = true := vx_ot_at hW0 hvm.symm (hgood _ List.mem_cons_self) hk
  have hini' : (Cond.initialized cls).before args s' = true := vx_ot_at hW0 hvm.symm (hgood _ (List.mem_cons_of_mem _ List.mem_cons_self)) hini
  have hU' : vx_Zq Bundle.tN "UNASSIGNED_STACK" Bundle.steD A s' s'.heap := by rw [hhp]; exact vx_Zq.moved hW0.alike (hU.kept hS.2.1)
  have hN' : vx_Zq Bundle.tN "SUPPRESSED_SENTINEL" Bundle.listD A s' s'.heap := by rw [hhp]; exact vx_Zq.moved hW0.alike (hN.kept hS.2.1)
  have h : ∀ w ∈ Bundle.ownAtoms own ic cls names, w.before args s' = true := vx_own hat' (vx_isRefq hU'.1) (vx_isRefq hN'.1) hU'.2.word hN'.2.word
  have hown' : s'.vm.findClass own = some m.cls := by rw [hvm]; exact hown
  have hins : (Cond.instantiable cls 6).before args s' = true := h _ (by simp [Bundle.ownAtoms])
  obtain ⟨vm₁, cX, kX, hfX, hkX, -, -, X₁, st1⟩ := Y.newCold hexec (own := own) (C := cls) (index := ik) (n := 6) hown' hk' hins hini'
    (g := F0 m pc ls rest) rfl (by rw [hb]; exact d0) (Nat.le_refl _) (Nat.le_refl _)
  generalize hT1 : (T.setVm vm₁).pushCell { cls := cX, slots := kX.instanceTypes.map defaultValue, vm := .none } = T1 at X₁ st1
  have hcat : (Value.ref T.heap.size).category = 1 := rfl
  have hcellA : T1.heap[T.heap.size]? = some (freshCell cX kX) := by rw [← hT1]; exact State.heap_pushCell_size _ _
  have d3' : decode c.code (pc + 3) = .ok (.dup, 1) := by rw [hb]; exact d3
  have d4' : decode c.code (pc + 4) = .ok (.ldc is, 2) := by rw [hb]; exact d4
  have hstr' : vk_R own is text sa s' := vk_R.warm hW0 hstr
  obtain ⟨U, hsteps, hrun, hend, hW, hsame, ce, hce, hO⟩ := X₁.ctorThrowS hexec htr (own := own) (cls := cls) (names := names) (ic := ic) hown' hcls hnames h (fun x hx => nomatch hx) hfX hkX hcellA (by rw [hhp, hT]; exact Nat.le_refl _) (msg := .ref sa) rfl
    (g := { method := m, pc := pc + 6, locals := ls, stack := .ref sa :: .ref T.heap.size :: .ref T.heap.size :: rest, locked := none }) rfl hsize rfl rfl (rest := rest) rfl
    (by rw [hb]; exact d6) (by rw [hb]; exact d9) hout hRframes (by simp only [List.map_cons, List.sum_cons, hcat]; omega) hlocks
  obtain ⟨f1, f2⟩ := vx_frame hsame
  rw [hhp] at f1 f2
  have hWs : s.WarmedH U.vm := State.WarmedH.trans hW0 hW
  have hcl : s.vm.findClass cls = some ce.cls := by
    have h9 := hO.cls
    rw [hvm] at h9
    exact h9
  have hall : s.sameButNew ({ U with vm := s.vm } : State) locs mc ms := by
    subst hA
    obtain ⟨e1, e2⟩ := hsame
    rw [State.setFrames_setFrames] at e1
    have h2 : (T.setVm s.vm).sameButNew ({ U with vm := s.vm } : State) [] (0 + 1) (0 + 6) := ⟨e1, e2⟩
    have h3 := X.same.trans h2
    rw [List.append_nil] at h3
    exact h3.mono hc hs
  refine ⟨U, ?_, .threw T.heap.size, hrun, hend, Or.inr ⟨T.heap.size, rfl, cls, ce, locs, hx U hWs.alike f1 (fun q hq => f2 q hq (fun z hz => nomatch hz)), hce, hO.vm, hcl, hWs, hall, hf⟩⟩
  refine st1 _ ?_
  show Steps p.tables e below (T1.setTop { method := m, pc := pc + 3, locals := ls, stack := .ref T.heap.size :: rest, locked := none }) _
  jvm_step X₁.here [X₁.here.top, hexec, d3', Value.category]
  exact X₁.ldcString hexec (own := own) (text := text) (index := is) (a := sa) hown' hstr'.1 hstr'.2
    (g := { method := m, pc := pc + 4, locals := ls, stack := .ref T.heap.size :: .ref T.heap.size :: rest, locked := none }) rfl d4' _ hsteps
/-- 'throw new E("text")', the text by a wide index -/
theorem vx_throwSW {cc : ByteArray} {pc : Nat} (hexec : p.tables.exec = Jvm.exec) (hb : c.code = cc) (hl : l.stackTraces = false) {own cls text : String} {names : List String} {ik is ic mc ms sa : Nat} {A : Nat → Prop}
    (hown : s.vm.findClass own = some m.cls) (hcls : Bundle.fit cls = true) (hnames : ∀ n ∈ names, Bundle.fit n = true)
    (hk : (Cond.classLink own ik cls).before args s = true) (hini : (Cond.initialized cls).before args s = true) (hstr : vk_R own is text sa s) (hat : ∀ w ∈ vx_atS own ic cls names, w.before args s = true)
    (hgood : ∀ w ∈ Cond.classLink own ik cls :: Cond.initialized cls :: vx_atS own ic cls names, vx_ot w = true)
    (hU : vx_Zq Bundle.tN "UNASSIGNED_STACK" Bundle.steD A s s.heap) (hN : vx_Zq Bundle.tN "SUPPRESSED_SENTINEL" Bundle.listD A s s.heap) (hS : va_S A s.heap H locs) (hsize : ls.size = c.maxLocals)
    (d0 : decode cc pc = .ok (.new ik, 3)) (d3 : decode cc (pc + 3) = .ok (.dup, 1)) (d4 : decode cc (pc + 4) = .ok (.ldc_w is, 3)) (d7 : decode cc (pc + 7) = .ok (.invokespecial ic, 3)) (d10 : decode cc (pc + 10) = .ok (.athrow, 1))
    (hout : ∀ x ∈ c.exceptionTable.toList, covers x (pc + 10) = false)
    (hRframes : names.length + 3 < R.frames) (hRlocals : (rest.map fun v => v.category).sum + (13 * (names.length + 1) + 43) ≤ R.locals) (hRcells : cells + 1 ≤ R.cells) (hRslots : slots + 6 ≤ R.slots) (hlocks : meth.locks = false)
    (hx : ∀ t : State, s.vm.Alike t.vm → H.size ≤ t.heap.size → (∀ q : Nat, q < H.size → t.heap[q]? = H[q]?) → XC cls s t)
    (hf : ∀ z ∈ locs, free z.base) (hc : cells + 1 ≤ mc) (hs : slots + 6 ≤ ms) :
    W p l e R s m args below meth c H locs cells slots (vx_MQ below Qc XC args s mc ms free) (F0 m pc ls rest) := by
  intro T hT X
  have htr : e.platform.stackTraces = false := (show e.platform.stackTraces = l.stackTraces by rw [X.admits.platform]).trans hl
  have Y := vx_rebase X (R' := { frames := R.frames, locals := R.locals, cells := 1, slots := 6 }) (Nat.le_refl _) (Nat.le_refl _) hRcells hRslots
  obtain ⟨s', hA⟩ : ∃ z, z = (T.setVm s.vm).setFrames (.invoking m args :: below) := ⟨_, rfl⟩
  rw [← hA] at Y
  have hvm : s'.vm = s.vm := by rw [hA]; rfl
  have hhp : s'.heap = H := by rw [hA]; exact hT
  have hW0 : s.WarmedH s'.vm := by rw [hvm]; exact State.WarmedH.refl s
  have hat' : ∀ w ∈ vx_atS own ic cls names, w.before args s' = true := fun w hw => vx_ot_at hW0 hvm.symm (hgood w (List.mem_cons_of_mem _ (List.mem_cons_of_mem _ hw))) (hat w hw)
  have hk' : (Cond.classLink own ik cls).before args s' = true := vx_ot_at hW0 hvm.symm (hgood _ List.mem_cons_self) hk
  have hini' : (Cond.initialized cls).before args s' = true := vx_ot_at hW0 hvm.symm (hgood _ (List.mem_cons_of_mem _ List.mem_cons_self)) hini
  have hU' : vx_Zq Bundle.tN "UNASSIGNED_STACK" Bundle.steD A s' s'.heap := by rw [hhp]; exact vx_Zq.moved hW0.alike (hU.kept hS.2.1)
  have hN' : vx_Zq Bundle.tN "SUPPRESSED_SENTINEL" Bundle.listD A s' s'.heap := by rw [hhp]; exact vx_Zq.moved hW0.alike (hN.kept hS.2.1)
  have h : ∀ w ∈ Bundle.ownAtoms own ic cls names, w.before args s' = true := vx_own hat' (vx_isRefq hU'.1) (vx_isRefq hN'.1) hU'.2.word hN'.2.word
  have hown' : s'.vm.findClass own = some m.cls := by rw [hvm]; exact hown
  have hins : (Cond.instantiable cls 6).before args s' = true := h _ (by simp [Bundle.ownAtoms])
  obtain ⟨vm₁, cX, kX, hfX, hkX, -, -, X₁, st1⟩ := Y.newCold hexec (own := own) (C := cls) (index := ik) (n := 6) hown' hk' hins hini'
    (g := F0 m pc ls rest) rfl (by rw [hb]; exact d0) (Nat.le_refl _) (Nat.le_refl _)
  generalize hT1 : (T.setVm vm₁).pushCell { cls := cX, slots := kX.instanceTypes.map defaultValue, vm := .none } = T1 at X₁ st1
  have hcat : (Value.ref T.heap.size).category = 1 := rfl
  have hcellA : T1.heap[T.heap.size]? = some (freshCell cX kX) := by rw [← hT1]; exact State.heap_pushCell_size _ _
  have d3' : decode c.code (pc + 3) = .ok (.dup, 1) := by rw [hb]; exact d3
  have d4' : decode c.code (pc + 4) = .ok (.ldc_w is, 3) := by rw [hb]; exact d4
  have hstr' : vk_R own is text sa s' := vk_R.warm hW0 hstr
  obtain ⟨U, hsteps, hrun, hend, hW, hsame, ce, hce, hO⟩ := X₁.ctorThrowS hexec htr (own := own) (cls := cls) (names := names) (ic := ic) hown' hcls hnames h (fun x hx => nomatch hx) hfX hkX hcellA (by rw [hhp, hT]; exact Nat.le_refl _) (msg := .ref sa) rfl
    (g := { method := m, pc := pc + 7, locals := ls, stack := .ref sa :: .ref T.heap.size :: .ref T.heap.size :: rest, locked := none }) rfl hsize rfl rfl (rest := rest) rfl
    (by rw [hb]; exact d7) (by rw [hb]; exact d10) hout hRframes (by simp only [List.map_cons, List.sum_cons, hcat]; omega) hlocks
  obtain ⟨f1, f2⟩ := vx_frame hsame
  rw [hhp] at f1 f2
  have hWs : s.WarmedH U.vm := State.WarmedH.trans hW0 hW
  have hcl : s.vm.findClass cls = some ce.cls := by
    have h9 := hO.cls
    rw [hvm] at h9
    exact h9
  have hall : s.sameButNew ({ U with vm := s.vm } : State) locs mc ms := by
    subst hA
    obtain ⟨e1, e2⟩ := hsame
    rw [State.setFrames_setFrames] at e1
    have h2 : (T.setVm s.vm).sameButNew ({ U with vm := s.vm } : State) [] (0 + 1) (0 + 6) := ⟨e1, e2⟩
    have h3 := X.same.trans h2
    rw [List.append_nil] at h3
    exact h3.mono hc hs
  refine ⟨U, ?_, .threw T.heap.size, hrun, hend, Or.inr ⟨T.heap.size, rfl, cls, ce, locs, hx U hWs.alike f1 (fun q hq => f2 q hq (fun z hz => nomatch hz)), hce, hO.vm, hcl, hWs, hall, hf⟩⟩
  refine st1 _ ?_
  show Steps p.tables e below (T1.setTop { method := m, pc := pc + 3, locals := ls, stack := .ref T.heap.size :: rest, locked := none }) _
  jvm_step X₁.here [X₁.here.top, hexec, d3', Value.category]
  exact X₁.ldcStringW hexec (own := own) (text := text) (index := is) (a := sa) hown' hstr'.1 hstr'.2
    (g := { method := m, pc := pc + 4, locals := ls, stack := .ref T.heap.size :: .ref T.heap.size :: rest, locked := none }) rfl d4' _ hsteps
end Ends
section Bodies
variable {l : Launch}
theorem vx_ofW {y : MethodName} {ws ws' : List Cond} {rm : Room} {Pc : Array Value → State → Prop} {Qc : Array Value → State → Outcome → State → Prop} {XC : String → State → State → Prop} {mc ms : Nat} {free : Addr → Prop} {cc : ByteArray} {maxL : Nat} {ret : Option FieldType}
    (hy : plainName y.cls = true) (hw : ws = Cond.code y cc maxL ret :: ws')
    (body : ∀ p e s m args below meth c s₁, BodyLoose p l y (headSpec ws rm) cc maxL ret e s m args below meth c s₁ → c.maxLocals = maxL → (∀ x ∈ c.exceptionTable.toList, False) → Pc args s →
      W p l e (headSpec ws rm).room s m args below meth c s.heap [] 0 0 (vx_MQ below Qc XC args s mc ms free) (entryFrame m args maxL)) : vx_Met l y ws rm Pc Qc XC mc ms free := by
  refine MetFree.of_bodyS (code := cc) (maxLocals := maxL) (ret := ret) hy ?_ ?_
  · intro args s m h hn
    obtain ⟨meth, c, h1, h2, h3, h4, h5, h6, -, -⟩ := Cond.code_spec hn (atoms_spec (ws := ws) h _ (by rw [hw]; exact List.mem_cons_self))
    exact ⟨meth, c, h1, h2, h3, h4, h5, h6⟩
  · intro p e s m args below meth c s₁ B hml hP _
    have hh0 : s₁.heap = s.heap := by rw [B.state]; rfl
    have ht : ∀ x ∈ c.exceptionTable.toList, False := by
      obtain ⟨meth9, c9, h1, h2, -, -, -, -, h7, -⟩ := Cond.code_spec B.named (atoms_spec (ws := ws) B.pre _ (by rw [hw]; exact List.mem_cons_self))
      cases Option.some.inj (h1.symm.trans B.method)
      cases Option.some.inj (h2.symm.trans (Stand.of_body B).code)
      intro x hx
      rw [Array.isEmpty_iff.mp h7] at hx
      cases hx
    obtain ⟨t, a1, o, b1, b2, b3⟩ := body p e s m args below meth c s₁ B hml ht hP s₁ hh0 (Stand.of_body B)
    exact ⟨t, o, a1, b1, b2, b3⟩
/-- the table of a body with handlers -/
theorem vx_table {p : Program} {x y : MethodName} {S : Spec} {cc bytes : ByteArray} {maxL maxL' : Nat} {ret ret' : Option FieldType} {e : Env} {s s₁ : State} {m : MethodId} {args : Array Value} {below : List Frame} {meth : Method} {c : Code} {hh : List (Nat × Nat × Nat × Nat)}
    (B : BodyLoose p l y S cc maxL ret e s m args below meth c s₁) (h : (Cond.codeWith y bytes maxL' ret' hh).before args s = true) : c.exceptionTable.toList = tableOf hh := by
  obtain ⟨m9, meth9, c9, hn9, h1, h2, -, -, h6, -⟩ := Cond.codeWith_spec h
  cases Option.some.inj (hn9.symm.trans B.named)
  cases Option.some.inj (h1.symm.trans B.method)
  cases Option.some.inj (h2.symm.trans (Stand.of_body B).code)
  rw [← h6, table_eq]
end Bodies
end VXA
/-! ===== END ===== -/
/-! ===== BEGIN a static call of a method with an exception table ===== -/
section VXS
variable {p : Program} {l : Launch} {e : Env} {R : Room} {s : State} {m : MethodId} {args : Array Value} {below : List Frame} {meth : Method} {c : Code} {T : State} {H : Heap} {locs : List Loc} {cells slots : Nat}
abbrev vx_CSW (R : Room) (s : State) (args : Array Value) (own : String) (index : Nat) (y : MethodName) (bytes : ByteArray) (maxL : Nat) (ret : Option FieldType) (hh : List (Nat × Nat × Nat × Nat)) (ws : List Cond) (rm : Room) (mc ms n : Nat) : Prop :=
  (rm.cells = mc ∧ rm.slots = ms ∧ rm.frames + 1 ≤ R.frames ∧ 8 + (maxL + 11) + rm.locals ≤ R.locals ∧ (∀ w ∈ ws, ∀ (a' : Array Value) (U : State), s.WarmedH U.vm → w.before a' U = true) ∧ Cond.codeWith y bytes maxL ret hh ∈ ws) ∧
  (Cond.codeWith y bytes maxL ret hh).before args s = true ∧ (Cond.initialized y.cls).before args s = true ∧ (y.cls ≠ "java/lang/invoke/MethodHandle" ∧ y.cls ≠ "java/lang/invoke/VarHandle") ∧
  (∀ sig, parseMethodDescriptor y.desc = some sig → n = sig.parameters.length) ∧ (Cond.methodLink own index y).before args s = true ∧ (Cond.static y).before args s = true
theorem vx_cwSW {own : String} {index maxL mc ms : Nat} {y : MethodName} {bytes : ByteArray} {ret : Option FieldType} {hh : List (Nat × Nat × Nat × Nat)} {Ts ws ws' : List Cond} {rm : Room} (n : Nat) (ht : ∀ w ∈ Ts, w.before args s = true) (hT : GoodIn Ts (va_wsS own index y ws)) (hw : ws = Cond.codeWith y bytes maxL ret hh :: ws') (hrc : rm.cells = mc) (hrs : rm.slots = ms)
    (hd : y.cls ≠ "java/lang/invoke/MethodHandle" ∧ y.cls ≠ "java/lang/invoke/VarHandle" ∧ (parseMethodDescriptor y.desc).map (fun d => d.parameters.length) = some n) (hR : rm.frames + 1 ≤ R.frames ∧ 8 + (maxL + 11) + rm.locals ≤ R.locals) :
    vx_CSW R s args own index y bytes maxL ret hh ws rm mc ms n := by
  have ok : ∀ w ∈ va_wsS own index y ws, w.before args s = true := fun w h => ht w (hT w h).1
  have hG : GoodIn Ts ws := fun w h => hT w (by unfold va_wsS; exact List.mem_append_right _ h)
  have hc : Cond.codeWith y bytes maxL ret hh ∈ ws := by rw [hw]; exact List.mem_cons_self
  refine ⟨⟨hrc, hrs, hR.1, hR.2, pay_in ht hG, hc⟩, ht _ (hG _ hc).1, ok _ (by simp [va_wsS]), ⟨hd.1, hd.2.1⟩, fun sig h => ?_, ok _ (by simp [va_wsS]), ok _ (by simp [va_wsS])⟩
  have h2 := hd.2.2
  rw [h] at h2
  exact (Option.some.inj h2).symm
theorem vx_callSW (X : Stand p l e R s m args below meth c T locs cells slots) (hexec : p.tables.exec = Jvm.exec) {own : String} {index : Nat} {y : MethodName} {bytes : ByteArray} {maxL : Nat} {ret : Option FieldType} {hh : List (Nat × Nat × Nat × Nat)}
    (hown : s.vm.findClass own = some m.cls) (hlink : (Cond.methodLink own index y).before args s = true) (hstat : (Cond.static y).before args s = true) (hinit : (Cond.initialized y.cls).before args s = true)
    (hcode : (Cond.codeWith y bytes maxL ret hh).before args s = true) (hy : y.cls ≠ "java/lang/invoke/MethodHandle" ∧ y.cls ≠ "java/lang/invoke/VarHandle")
    {W9 : Nat} {Pre : Pt → Array Value → Prop} {Post : Pt → Array Value → Option Value → Pt → Prop} (hK : Back l R p e below s args y 3 W9 Pre Post)
    {g : JFrame} (hg : g.method = m) (hsize : g.locals.size = c.maxLocals) {argsL rest : List Value} (hlen : ∀ sig, parseMethodDescriptor y.desc = some sig → argsL.length = sig.parameters.length)
    (hstack : g.stack = argsL.reverse ++ rest) (hW : 2 * g.monitorRoom + (rest.map fun v => v.category).sum ≤ W9) (hdg : decode c.code g.pc = .ok (.invokestatic index, 3))
    (hpre : ∀ vm₁, s.WarmedH vm₁ → Pre ⟨T.setVm vm₁, locs, cells, slots⟩ argsL.toArray) :
    ∃ (v : Option Value) (vm₁ : Vm) (B : Pt), s.WarmedH vm₁ ∧ Stand p l e R s m args below meth c B.U B.locs B.cells B.slots ∧ Post ⟨T.setVm vm₁, locs, cells, slots⟩ argsL.toArray v B ∧
      ∀ target, Steps p.tables e below (B.U.setTop { g with pc := g.pc + 3, stack := v.toList ++ rest }) target → Steps p.tables e below (T.setTop g) target := by
  obtain ⟨mk, methM, cM, hnamed, hmethM, -, -, -, -, -, -, hsigM⟩ := Cond.codeWith_spec hcode
  have hstatic : methM.isStatic = true := Cond.static_spec hnamed hmethM hstat
  obtain ⟨kP, hkP, -⟩ := className_of_methodNamed hnamed
  have hinitP : kP.init = .initialized := Cond.initialized_spec (findClass_of_methodNamed hnamed) hkP hinit
  obtain ⟨vm₁, X₁, hstep₁⟩ := X.invokestatic hexec hown hlink hnamed hmethM hstatic hkP hinitP hy (g := g) hg (argsL := argsL) (rest := rest) (hlen _ hsigM) hstack hdg
  obtain ⟨v, B, X', hpost, hsteps⟩ := hK m meth c ⟨T.setVm vm₁, locs, cells, slots⟩ { g with stack := rest } (.invokestatic index) mk argsL.toArray X₁ hg hsize hdg hW (X₁.named hnamed) (hpre vm₁ X₁.warmed)
  exact ⟨v, vm₁, B, X₁.warmed, X', hpost, fun target h => hstep₁ _ fun acts => by rw [doInvoke_state]; exact hsteps.trans h⟩
theorem vx_runSW {y : MethodName} {bytes cc : ByteArray} {maxL nL mc ms n index : Nat} {ret : Option FieldType} {hh : List (Nat × Nat × Nat × Nat)} {ws : List Cond} {rm : Room} {Pc : Array Value → State → Prop} {Qc : Array Value → State → Outcome → State → Prop} {free : Addr → Prop} {Ts : List Cond} {own : String} {As rest : List Value} {g : JFrame}
    (S : CallFix p m c cc nL s args Ts own) (hM : Met l y ws rm Pc Qc mc ms free) (cw : vx_CSW R s args own index y bytes maxL ret hh ws rm mc ms n) (hp : PreS s H Pc As)
    (hg : g.method = m) (hn : As.length = n) (hsize : g.locals.size = nL) (hstack : g.stack = As.reverse ++ rest) (hW : 2 * g.monitorRoom + (rest.map fun v => v.category).sum ≤ 8) (hdg : decode cc g.pc = .ok (.invokestatic index, 3)) (hf : cells + mc ≤ R.cells ∧ slots + ms ≤ R.slots) :
    va_Run p l e R s m args below meth c H locs cells slots mc ms g rest (Qc As.toArray) (free) := by
  obtain ⟨⟨hrc, hrs, hfr, hlo, hws, hcw⟩, hcode, hini, hy, hlen, hl, hstt⟩ := cw
  have hK : Back l R p e below s args y 3 8 (PreOf R mc ms Pc) (PostOf Qc mc ms free) := va_backW (hh := hh) (bytes := bytes) (maxL := maxL) (ret := ret) hM hp.1 hrc hrs hfr hlo hws hcw (fun a' U hW => word_at hW (Or.inl (by first | rfl | simp [Cond.onTables, Cond.keeps, Cond.steady])) hini)
  obtain ⟨hx, hb, hml, ho, -⟩ := S
  intro T hT X
  obtain ⟨v, vm₁, ⟨U', l2, c2, s2⟩, hW₁, X', ⟨g', mk, t, L, e1, e2, hq, h1, hL, h2, h3⟩, st⟩ := vx_callSW X hx (hh := hh) (bytes := bytes) (maxL := maxL) (ret := ret) ho hl hstt hini hcode hy hK hg (hsize.trans hml.symm) (argsL := As) (rest := rest) (fun sig h => hn.trans (hlen sig h)) hstack hW (by rw [hb]; exact hdg)
    (fun vm₁ hW₁ => ⟨hf.1, hf.2, hp.2 (T.setVm vm₁) hT hW₁⟩)
  dsimp only [Pt.U, Pt.locs, Pt.cells, Pt.slots] at X' e1 e2 h1 h2 h3 st
  subst h1; subst h2; subst h3
  exact ⟨v, (T.setVm vm₁).calling g' mk As.toArray, t, U', L, hT, X', hL, e1, e2, hq, st⟩
/-- not caught here, past rows that name other classes: it goes on to the caller -/
theorem vx_outP {p : Program} {l : Launch} {e : Env} {R : Room} {s : State} {m : MethodId} {args : Array Value} {below : List Frame} {meth : Method} {c : Code} {H : Heap} {locs : List Loc} {cells slots : Nat} {free : Addr → Prop} {ls : Array Slot} {rest : List Value} {Qc : Array Value → State → Outcome → State → Prop} {XC : String → State → State → Prop}
    {pc : Nat} {own E : String} {ce : Cell} {q : Addr} {mc ms : Nat} (hown : s.vm.findClass own = some m.cls) (hlocks : meth.locks = false)
    (hpass : ∀ z ∈ c.exceptionTable.toList, covers z pc = false ∨ (z.catchType ≠ 0 ∧ ∃ nm : String, (Cond.classLink own z.catchType nm).before args s = true ∧ va_Nc E nm s)) (hcell : H[q]? = some ce) (hv : ce.vm = .none) (hcl : s.vm.findClass E = some ce.cls)
    (hx : ∀ t : State, t.heap = H → s.vm.Alike t.vm → XC E s t) (hf : ∀ z ∈ locs, free z.base) (hc : cells ≤ mc) (hs : slots ≤ ms) :
    vx_W p l e R s m args below meth c H locs cells slots (vx_MQ below Qc XC args s mc ms free) (F0 m pc ls rest) q := by
  intro T hT X
  have hpl : e.platform.magicAccessors = ({} : Platform).magicAccessors := by rw [X.admits.platform]
  obtain ⟨vm', hW', X', st⟩ := X.outThrough hlocks q (g := F0 m pc ls rest) rfl rfl rfl (cell := ce) (by rw [hT]; exact hcell) (by rw [hv]; rfl)
    (by obtain ⟨k9, h9, -⟩ := Vm.findClass_spec hcl; exact ⟨k9, h9⟩) (fun z hz => by
      rcases hpass z hz with h | ⟨hz0, nm, hl1, hn1⟩
      · exact Or.inl h
      · obtain ⟨c6, hc6, hcl6⟩ := Cond.classLink_spec hown hl1 e.platform hpl
        obtain ⟨a8, b8, h1, h2, h3⟩ := hn1
        cases Option.some.inj (h1.symm.trans hcl)
        cases Option.some.inj (h2.symm.trans hc6)
        exact Or.inr ⟨hz0, _, hcl6, h3⟩)
  obtain ⟨g₀, hfr⟩ := X'.frames_eq
  have hcell9 : ((T.setVm vm').setFrames (.throwing q :: below)).heap[q]? = some ce := by
    show T.heap[q]? = some ce
    rw [hT]; exact hcell
  have hend : Ended ((T.setVm vm').setFrames (.throwing q :: below)) below (.threw q) := State.frames_setFrames _ (State.cur_lt_of_frames hfr)
  refine ⟨(T.setVm vm').setFrames (.throwing q :: below), ?_, .threw q, X'.here.running, hend, Or.inr ⟨q, rfl, E, ce, locs, hx _ hT (X'.ends _).1.alike, hcell9, hv, hcl, (X'.ends _).1, (X'.ends _).2.mono hc hs, hf⟩⟩
  rw [X.pushThrowing_eq]
  exact st
/-- a thing of a world lies in the heap -/
theorem vx_lt {D : va_G} {cl : List vw_C} {ws : va_W} {H1 : Heap} (h : va_P D cl ws H1) {k : Nat} {q : Nat × va_E} (hk : ws[k]? = some q) : q.1 < H1.size := (h k q hk).lt
end VXS
/-! ===== END ===== -/
/-! ===== BEGIN methods with a table of their own: called by a name, returning or throwing ===== -/
section VXH
/-! vx_backW, vx_callVX, vx_callSX, vx_callVW, vx_runVW, vx_runVX, vx_runSX, vx_ofWH follow the same proofs as their sisters above (Free/Laws.lean, Shelf42/LK1.lean); vx_outP calls Shelf42/NT130.lean (outThrough). -/
section
variable {l : Launch} {R : Room} {p : Program} {e : Env} {below : List Frame} {s : State} {sargs : Array Value} {y : MethodName} {len W9 : Nat}
theorem vx_backW {ws : List Cond} {rm : Room} {Pc : Array Value → State → Prop} {Qc : Array Value → State → Outcome → State → Prop} {XC : String → State → State → Prop} {mc ms : Nat} {free : Addr → Prop} {bytes : ByteArray} {maxL : Nat} {ret : Option FieldType} {hh : List (Nat × Nat × Nat × Nat)}
    (hM : vx_Met l y ws rm Pc Qc XC mc ms free) (hblind : FrameBlind Pc) (hrc : rm.cells = mc) (hrs : rm.slots = ms)
    (hframes : rm.frames + 1 ≤ R.frames) (hlocals : W9 + (maxL + 11) + rm.locals ≤ R.locals)
    (hws : ∀ w ∈ ws, ∀ a' U, s.WarmedH U.vm → w.before a' U = true) (hcode : Cond.codeWith y bytes maxL ret hh ∈ ws) (hinit : ∀ a' U, s.WarmedH U.vm → (Cond.initialized y.cls).before a' U = true) :
    vx_Back l R p e below s sargs y len W9 (PreOf R mc ms Pc) (PostOf Qc mc ms free) (vx_Post XC mc ms free) := by
  intro m meth c A g ig mk a X hg hsize hdg hW hn hp
  have h1 : (headSpec ws rm).pre.before a A.U = true := atoms_intro fun w hw => hws w hw _ _ X.warmed
  have h2 : (Cond.codeWith y bytes maxL ret hh).before a A.U = true := hws _ hcode _ _ X.warmed
  have h3 : (Cond.initialized y.cls).before a A.U = true := hinit _ _ X.warmed
  have h4 : A.cells + (headSpec ws rm).room.cells ≤ R.cells := by rw [show (headSpec ws rm).room.cells = mc from hrc]; exact hp.1
  have h5 : A.slots + (headSpec ws rm).room.slots ≤ R.slots := by rw [show (headSpec ws rm).room.slots = ms from hrs]; exact hp.2.1
  have hPc : Pc a (A.U.calling g mk a) := hblind _ _ _ _ hp.2.2
  obtain ⟨U, Ls, c0, s0⟩ := A
  dsimp only [Pt.U, Pt.locs, Pt.cells, Pt.slots] at h1 h2 h3 h4 h5 X hn hPc ⊢
  obtain ⟨m9, methY, cY, hn9, hmY, hcY, -, hlY, -⟩ := Cond.codeWith_spec h2
  cases Option.some.inj (hn9.symm.trans hn)
  obtain ⟨kY, hkY, -⟩ := className_of_methodNamed hn
  have hinitY : kY.init = .initialized := Cond.initialized_spec (findClass_of_methodNamed hn) hkY h3
  have h : At U g.method c below := by rw [hg]; exact X.here
  have hlocals9 : W9 + (maxL + 11) + (headSpec ws rm).room.locals ≤ R.locals := hlocals
  have happ : (headSpec ws rm).appliesLoose y e.platform (U.calling g mk a) = true :=
    Spec.appliesLoose_calling (g := g) h hdg hn hkY hinitY
      (X.room_calling (g := g) (R' := (headSpec ws rm).room) hsize hmY hcY hframes (by rw [hlY]; omega) h4 h5) h1
  obtain ⟨mid, hmid⟩ := h.above
  have hfr : (U.setTop g).frames = (.java g :: mid) ++ below := by rw [State.frames_setTop' g h.top, hmid]; rfl
  obtain ⟨o, s₂, hsteps, -, hend, hq⟩ := Steps.callFree hM p X.admits X.cas X.clock (acts := []) hfr happ hPc trivial
  have hq' : vx_Q Qc XC mc ms free a (U.calling g mk a) o s₂ := hq
  rw [State.frames_setTop' g h.top] at hend
  obtain ⟨g₀, hg0⟩ := Option.isSome_iff_exists.mp h.top
  obtain ⟨r, hr⟩ := State.topJava?_eq_some.mp hg0
  have hr' : (({ U with heap := s₂.heap, slotsUsed := s₂.slotsUsed } : State).setVm s₂.vm).frames = .java g₀ :: r := hr
  rcases hq' with ⟨hqc, L, hfe, hL⟩ | ⟨q, rfl, E, ce, L, hx, hce, hcv, hcl, hW₂, hsm, hL⟩
  · obtain ⟨⟨v, rfl⟩, hW₂, e2, q2, q3, q4, q5, q6⟩ := id hfe
    have e3 : s₂ = ({ (U.calling g mk a).setFrames s₂.frames with heap := s₂.heap, slotsUsed := s₂.slotsUsed } : State).setVm s₂.vm := by
      have : s₂ = ({ s₂ with vm := (U.calling g mk a).vm } : State).setVm s₂.vm := rfl
      rw [e2] at this
      exact this
    obtain ⟨c₂, i₂, len₂, hc₂, hd₂, hf₂⟩ := hend
    have hW' : U.WarmedH s₂.vm := hW₂
    have hcc : c₂ = c := by
      have h1 : s₂.code? g.method = U.code? g.method := by
        rw [State.code?_eq, State.code?_eq, hW'.alike.method?]
      exact Option.some.inj (hc₂.symm.trans (h1.trans h.code))
    subst hcc
    have hlen : len₂ = len := by rw [hdg] at hd₂; cases hd₂; rfl
    subst hlen
    have hs₂ : s₂ = (({ U with heap := s₂.heap, slotsUsed := s₂.slotsUsed } : State).setVm s₂.vm).setTop { g with pc := g.pc + len₂, stack := v.toList ++ g.stack } := by
      refine e3.trans ?_
      rw [hf₂, State.calling_eq h.top, State.setFrames_setFrames, State.setTop_of_frames _ hr', hr]
      rfl
    have hsame : U.sameButNew ({ U with heap := s₂.heap, slotsUsed := s₂.slotsUsed } : State) L mc ms := by
      refine ⟨?_, q2, q3, q4, q5, q6⟩
      obtain ⟨t, ht, -⟩ := State.frames_cons hr
      show ({ U with heap := s₂.heap, slotsUsed := s₂.slotsUsed } : State) = { U.setFrames U.frames with heap := s₂.heap, slotsUsed := s₂.slotsUsed }
      rw [State.setFrames_self ht]
    subst hg
    refine Or.inl ⟨v, ⟨(({ U with heap := s₂.heap, slotsUsed := s₂.slotsUsed } : State).setVm s₂.vm), Ls ++ L, c0 + mc, s0 + ms⟩,
      ⟨X.admits, X.cas, X.clock, X.frames, X.room, X.hears, X.method, X.code, (X.here.setHeapUsed s₂.heap s₂.slotsUsed).setVm hW'.alike, X.tail, State.WarmedH.trans X.warmed hW', X.limits, X.bytes, X.same.trans (hsame.setVm s.vm)⟩,
      ⟨g, mk, s₂, L, rfl, rfl, hqc, rfl, hL, rfl, rfl⟩, ?_⟩
    show Steps p.tables e below _ ((({ U with heap := s₂.heap, slotsUsed := s₂.slotsUsed } : State).setVm s₂.vm).setTop { g with pc := g.pc + len₂, stack := v.toList ++ g.stack })
    rw [← hs₂]
    exact hsteps
  · obtain ⟨e2, q2, q3, q4, q5, q6⟩ := id hsm
    have e3 : s₂ = ({ (U.calling g mk a).setFrames s₂.frames with heap := s₂.heap, slotsUsed := s₂.slotsUsed } : State).setVm s₂.vm := by
      have : s₂ = ({ s₂ with vm := (U.calling g mk a).vm } : State).setVm s₂.vm := rfl
      rw [e2] at this
      exact this
    have hf₂ : s₂.frames = .throwing q :: .java g :: U.frames.tail := hend
    have hW' : U.WarmedH s₂.vm := hW₂
    have hs₂ : s₂ = ((({ U with heap := s₂.heap, slotsUsed := s₂.slotsUsed } : State).setVm s₂.vm).setTop g).pushFrame (.throwing q) := by
      refine e3.trans ?_
      rw [hf₂, State.calling_eq h.top, State.setFrames_setFrames, State.pushFrame, State.frames_setTop _ hr', State.setTop_of_frames _ hr', State.setFrames_setFrames, hr]
      rfl
    have hsame : U.sameButNew ({ U with heap := s₂.heap, slotsUsed := s₂.slotsUsed } : State) L mc ms := by
      refine ⟨?_, q2, q3, q4, q5, q6⟩
      obtain ⟨t, ht, -⟩ := State.frames_cons hr
      show ({ U with heap := s₂.heap, slotsUsed := s₂.slotsUsed } : State) = { U.setFrames U.frames with heap := s₂.heap, slotsUsed := s₂.slotsUsed }
      rw [State.setFrames_self ht]
    subst hg
    refine Or.inr ⟨q, ⟨(({ U with heap := s₂.heap, slotsUsed := s₂.slotsUsed } : State).setVm s₂.vm), Ls ++ L, c0 + mc, s0 + ms⟩,
      ⟨X.admits, X.cas, X.clock, X.frames, X.room, X.hears, X.method, X.code, (X.here.setHeapUsed s₂.heap s₂.slotsUsed).setVm hW'.alike, X.tail, State.WarmedH.trans X.warmed hW', X.limits, X.bytes, X.same.trans (hsame.setVm s.vm)⟩,
      ⟨g, mk, s₂, L, E, ce, rfl, rfl, hx, hce, hcv, hcl, rfl, hL, rfl, rfl⟩, ?_⟩
    show Steps p.tables e below _ (((({ U with heap := s₂.heap, slotsUsed := s₂.slotsUsed } : State).setVm s₂.vm).setTop g).pushFrame (.throwing q))
    rw [← hs₂]
    exact hsteps
end
variable {p : Program} {l : Launch} {e : Env} {R : Room} {s : State} {m : MethodId} {args : Array Value} {below : List Frame} {meth : Method} {c : Code} {T : State} {H : Heap} {locs : List Loc} {cells slots : Nat}
theorem vx_callVX (X : Stand p l e R s m args below meth c T locs cells slots) (hexec : p.tables.exec = Jvm.exec) {own C : String} {index : Nat} {y : MethodName} {bytes : ByteArray} {maxL : Nat} {ret : Option FieldType} {hh : List (Nat × Nat × Nat × Nat)}
    (hown : s.vm.findClass own = some m.cls) (hlink : (Cond.methodLink own index y).before args s = true) (hinst : (Cond.instanceMethod y).before args s = true) (hsel : (Cond.selects C y y).before args s = true)
    (hcode : (Cond.codeWith y bytes maxL ret hh).before args s = true) (hy : y.cls ≠ "java/lang/invoke/MethodHandle" ∧ y.cls ≠ "java/lang/invoke/VarHandle")
    {W9 : Nat} {Pre : Pt → Array Value → Prop} {Post : Pt → Array Value → Option Value → Pt → Prop} {PostX : Pt → Array Value → Addr → Pt → Prop} (hK : vx_Back l R p e below s args y 3 W9 Pre Post PostX)
    {b : Addr} {cellB : Cell} (hcell : T.heap[b]? = some cellB) (hobj : cellB.vm.isStatics = false) (hcls : s.vm.findClass C = some cellB.cls)
    {g : JFrame} (hg : g.method = m) (hsize : g.locals.size = c.maxLocals) {argsL rest : List Value} (hlen : ∀ sig, parseMethodDescriptor y.desc = some sig → argsL.length = sig.parameters.length)
    (hstack : g.stack = argsL.reverse ++ .ref b :: rest) (hW : 2 * g.monitorRoom + (rest.map fun v => v.category).sum ≤ W9) (hdg : decode c.code g.pc = .ok (.invokevirtual index, 3))
    (hpre : ∀ vm₁, s.WarmedH vm₁ → Pre ⟨T.setVm vm₁, locs, cells, slots⟩ (Value.ref b :: argsL).toArray) :
    (∃ (v : Option Value) (vm₁ : Vm) (B : Pt), s.WarmedH vm₁ ∧ Stand p l e R s m args below meth c B.U B.locs B.cells B.slots ∧ Post ⟨T.setVm vm₁, locs, cells, slots⟩ (Value.ref b :: argsL).toArray v B ∧
      ∀ target, Steps p.tables e below (B.U.setTop { g with pc := g.pc + 3, stack := v.toList ++ rest }) target → Steps p.tables e below (T.setTop g) target) ∨
    (∃ (q : Addr) (vm₁ : Vm) (B : Pt), s.WarmedH vm₁ ∧ Stand p l e R s m args below meth c B.U B.locs B.cells B.slots ∧ PostX ⟨T.setVm vm₁, locs, cells, slots⟩ (Value.ref b :: argsL).toArray q B ∧
      Steps p.tables e below (T.setTop g) ((B.U.setTop { g with stack := rest }).pushFrame (.throwing q))) := by
  obtain ⟨mk, methM, hnamed, hmethM, hstM, habM⟩ := Cond.instanceMethod_spec hinst
  obtain ⟨m8, methM', cM, hn8, hmethM', -, -, -, -, -, -, hsigM⟩ := Cond.codeWith_spec hcode
  cases Option.some.inj (hn8.symm.trans hnamed)
  cases hmethM.symm.trans hmethM'
  obtain ⟨c2, r2, m2, q1, q2, q3, q4, kP, hkP, hkPi⟩ := Cond.selects_spec hsel
  cases hcls.symm.trans q1
  cases (State.methodFound?_of_named hnamed hy).symm.trans q2
  cases hnamed.symm.trans q3
  have hselP : selectMethod e.platform s.vm cellB.cls mk = .method mk := by rw [Launch.admits_selectMethod X.admits]; exact q4
  obtain ⟨vm₁, X₁, hstep₁⟩ := X.invokevirtual hexec hown hlink hnamed hmethM hstM hkP hkPi hy (a := b) (cell := cellB) hcell
    (fun z h => by rw [h] at hobj; cases hobj) hselP hmethM habM hkP hkPi (g := g) hg (argsL := argsL) (rest := rest) (hlen _ hsigM) hstack hdg
  rcases hK m meth c ⟨T.setVm vm₁, locs, cells, slots⟩ { g with stack := rest } (.invokevirtual index) mk (Value.ref b :: argsL).toArray X₁ hg hsize hdg hW (X₁.named hnamed) (hpre vm₁ X₁.warmed) with ⟨v, B, X', hpost, hsteps⟩ | ⟨q, B, X', hpost, hsteps⟩
  · exact Or.inl ⟨v, vm₁, B, X₁.warmed, X', hpost, fun target h => hstep₁ _ fun acts => by rw [doInvoke_state]; exact hsteps.trans h⟩
  · exact Or.inr ⟨q, vm₁, B, X₁.warmed, X', hpost, hstep₁ _ fun acts => by rw [doInvoke_state]; exact hsteps⟩
theorem vx_callSX (X : Stand p l e R s m args below meth c T locs cells slots) (hexec : p.tables.exec = Jvm.exec) {own : String} {index : Nat} {y : MethodName} {bytes : ByteArray} {maxL : Nat} {ret : Option FieldType} {hh : List (Nat × Nat × Nat × Nat)}
    (hown : s.vm.findClass own = some m.cls) (hlink : (Cond.methodLink own index y).before args s = true) (hstat : (Cond.static y).before args s = true) (hinit : (Cond.initialized y.cls).before args s = true)
    (hcode : (Cond.codeWith y bytes maxL ret hh).before args s = true) (hy : y.cls ≠ "java/lang/invoke/MethodHandle" ∧ y.cls ≠ "java/lang/invoke/VarHandle")
    {W9 : Nat} {Pre : Pt → Array Value → Prop} {Post : Pt → Array Value → Option Value → Pt → Prop} {PostX : Pt → Array Value → Addr → Pt → Prop} (hK : vx_Back l R p e below s args y 3 W9 Pre Post PostX)
    {g : JFrame} (hg : g.method = m) (hsize : g.locals.size = c.maxLocals) {argsL rest : List Value} (hlen : ∀ sig, parseMethodDescriptor y.desc = some sig → argsL.length = sig.parameters.length)
    (hstack : g.stack = argsL.reverse ++ rest) (hW : 2 * g.monitorRoom + (rest.map fun v => v.category).sum ≤ W9) (hdg : decode c.code g.pc = .ok (.invokestatic index, 3))
    (hpre : ∀ vm₁, s.WarmedH vm₁ → Pre ⟨T.setVm vm₁, locs, cells, slots⟩ argsL.toArray) :
    (∃ (v : Option Value) (vm₁ : Vm) (B : Pt), s.WarmedH vm₁ ∧ Stand p l e R s m args below meth c B.U B.locs B.cells B.slots ∧ Post ⟨T.setVm vm₁, locs, cells, slots⟩ argsL.toArray v B ∧
      ∀ target, Steps p.tables e below (B.U.setTop { g with pc := g.pc + 3, stack := v.toList ++ rest }) target → Steps p.tables e below (T.setTop g) target) ∨
    (∃ (q : Addr) (vm₁ : Vm) (B : Pt), s.WarmedH vm₁ ∧ Stand p l e R s m args below meth c B.U B.locs B.cells B.slots ∧ PostX ⟨T.setVm vm₁, locs, cells, slots⟩ argsL.toArray q B ∧
      Steps p.tables e below (T.setTop g) ((B.U.setTop { g with stack := rest }).pushFrame (.throwing q))) := by
  obtain ⟨mk, methM, cM, hnamed, hmethM, -, -, -, -, -, -, hsigM⟩ := Cond.codeWith_spec hcode
  have hstatic : methM.isStatic = true := Cond.static_spec hnamed hmethM hstat
  obtain ⟨kP, hkP, -⟩ := className_of_methodNamed hnamed
  have hinitP : kP.init = .initialized := Cond.initialized_spec (findClass_of_methodNamed hnamed) hkP hinit
  obtain ⟨vm₁, X₁, hstep₁⟩ := X.invokestatic hexec hown hlink hnamed hmethM hstatic hkP hinitP hy (g := g) hg (argsL := argsL) (rest := rest) (hlen _ hsigM) hstack hdg
  rcases hK m meth c ⟨T.setVm vm₁, locs, cells, slots⟩ { g with stack := rest } (.invokestatic index) mk argsL.toArray X₁ hg hsize hdg hW (X₁.named hnamed) (hpre vm₁ X₁.warmed) with ⟨v, B, X', hpost, hsteps⟩ | ⟨q, B, X', hpost, hsteps⟩
  · exact Or.inl ⟨v, vm₁, B, X₁.warmed, X', hpost, fun target h => hstep₁ _ fun acts => by rw [doInvoke_state]; exact hsteps.trans h⟩
  · exact Or.inr ⟨q, vm₁, B, X₁.warmed, X', hpost, hstep₁ _ fun acts => by rw [doInvoke_state]; exact hsteps⟩
theorem vx_callVW (X : Stand p l e R s m args below meth c T locs cells slots) (hexec : p.tables.exec = Jvm.exec) {own C : String} {index : Nat} {y : MethodName} {bytes : ByteArray} {maxL : Nat} {ret : Option FieldType} {hh : List (Nat × Nat × Nat × Nat)}
    (hown : s.vm.findClass own = some m.cls) (hlink : (Cond.methodLink own index y).before args s = true) (hinst : (Cond.instanceMethod y).before args s = true) (hsel : (Cond.selects C y y).before args s = true)
    (hcode : (Cond.codeWith y bytes maxL ret hh).before args s = true) (hy : y.cls ≠ "java/lang/invoke/MethodHandle" ∧ y.cls ≠ "java/lang/invoke/VarHandle")
    {W9 : Nat} {Pre : Pt → Array Value → Prop} {Post : Pt → Array Value → Option Value → Pt → Prop} (hK : Back l R p e below s args y 3 W9 Pre Post)
    {b : Addr} {cellB : Cell} (hcell : T.heap[b]? = some cellB) (hobj : cellB.vm.isStatics = false) (hcls : s.vm.findClass C = some cellB.cls)
    {g : JFrame} (hg : g.method = m) (hsize : g.locals.size = c.maxLocals) {argsL rest : List Value} (hlen : ∀ sig, parseMethodDescriptor y.desc = some sig → argsL.length = sig.parameters.length)
    (hstack : g.stack = argsL.reverse ++ .ref b :: rest) (hW : 2 * g.monitorRoom + (rest.map fun v => v.category).sum ≤ W9) (hdg : decode c.code g.pc = .ok (.invokevirtual index, 3))
    (hpre : ∀ vm₁, s.WarmedH vm₁ → Pre ⟨T.setVm vm₁, locs, cells, slots⟩ (Value.ref b :: argsL).toArray) :
    ∃ (v : Option Value) (vm₁ : Vm) (B : Pt), s.WarmedH vm₁ ∧ Stand p l e R s m args below meth c B.U B.locs B.cells B.slots ∧ Post ⟨T.setVm vm₁, locs, cells, slots⟩ (Value.ref b :: argsL).toArray v B ∧
      ∀ target, Steps p.tables e below (B.U.setTop { g with pc := g.pc + 3, stack := v.toList ++ rest }) target → Steps p.tables e below (T.setTop g) target := by
  obtain ⟨mk, methM, hnamed, hmethM, hstM, habM⟩ := Cond.instanceMethod_spec hinst
  obtain ⟨m8, methM', cM, hn8, hmethM', -, -, -, -, -, -, hsigM⟩ := Cond.codeWith_spec hcode
  cases Option.some.inj (hn8.symm.trans hnamed)
  cases hmethM.symm.trans hmethM'
  obtain ⟨c2, r2, m2, q1, q2, q3, q4, kP, hkP, hkPi⟩ := Cond.selects_spec hsel
  cases hcls.symm.trans q1
  cases (State.methodFound?_of_named hnamed hy).symm.trans q2
  cases hnamed.symm.trans q3
  have hselP : selectMethod e.platform s.vm cellB.cls mk = .method mk := by rw [Launch.admits_selectMethod X.admits]; exact q4
  obtain ⟨vm₁, X₁, hstep₁⟩ := X.invokevirtual hexec hown hlink hnamed hmethM hstM hkP hkPi hy (a := b) (cell := cellB) hcell
    (fun z h => by rw [h] at hobj; cases hobj) hselP hmethM habM hkP hkPi (g := g) hg (argsL := argsL) (rest := rest) (hlen _ hsigM) hstack hdg
  obtain ⟨v, B, X', hpost, hsteps⟩ := hK m meth c ⟨T.setVm vm₁, locs, cells, slots⟩ { g with stack := rest } (.invokevirtual index) mk (Value.ref b :: argsL).toArray X₁ hg hsize hdg hW (X₁.named hnamed) (hpre vm₁ X₁.warmed)
  exact ⟨v, vm₁, B, X₁.warmed, X', hpost, fun target h => hstep₁ _ fun acts => by rw [doInvoke_state]; exact hsteps.trans h⟩
abbrev vx_CVW (R : Room) (s : State) (args : Array Value) (own C : String) (index : Nat) (y : MethodName) (bytes : ByteArray) (maxL : Nat) (ret : Option FieldType) (hh : List (Nat × Nat × Nat × Nat)) (ws : List Cond) (rm : Room) (mc ms n : Nat) : Prop :=
  (rm.cells = mc ∧ rm.slots = ms ∧ rm.frames + 1 ≤ R.frames ∧ 8 + (maxL + 11) + rm.locals ≤ R.locals ∧ (∀ w ∈ ws, ∀ (a' : Array Value) (U : State), s.WarmedH U.vm → w.before a' U = true) ∧ Cond.codeWith y bytes maxL ret hh ∈ ws) ∧
  (Cond.codeWith y bytes maxL ret hh).before args s = true ∧ (Cond.initialized y.cls).before args s = true ∧ (y.cls ≠ "java/lang/invoke/MethodHandle" ∧ y.cls ≠ "java/lang/invoke/VarHandle") ∧
  (∀ sig, parseMethodDescriptor y.desc = some sig → n = sig.parameters.length) ∧ (Cond.methodLink own index y).before args s = true ∧ (Cond.instanceMethod y).before args s = true ∧ (Cond.selects C y y).before args s = true
theorem vx_cwVW {own C : String} {index maxL mc ms : Nat} {y : MethodName} {bytes : ByteArray} {ret : Option FieldType} {hh : List (Nat × Nat × Nat × Nat)} {Ts ws ws' : List Cond} {rm : Room} (n : Nat) (ht : ∀ w ∈ Ts, w.before args s = true) (hT : GoodIn Ts (wsV own index C y ws)) (hw : ws = Cond.codeWith y bytes maxL ret hh :: ws') (hrc : rm.cells = mc) (hrs : rm.slots = ms)
    (hd : y.cls = C ∧ y.cls ≠ "java/lang/invoke/MethodHandle" ∧ y.cls ≠ "java/lang/invoke/VarHandle" ∧ (parseMethodDescriptor y.desc).map (fun d => d.parameters.length) = some n) (hR : rm.frames + 1 ≤ R.frames ∧ 8 + (maxL + 11) + rm.locals ≤ R.locals) :
    vx_CVW R s args own C index y bytes maxL ret hh ws rm mc ms n := by
  obtain ⟨hC, hd⟩ := hd
  subst hC
  have ok : ∀ w ∈ wsV own index y.cls y ws, w.before args s = true := fun w h => ht w (hT w h).1
  have hG : GoodIn Ts ws := fun w h => hT w (by unfold wsV; exact List.mem_append_right _ h)
  have hc : Cond.codeWith y bytes maxL ret hh ∈ ws := by rw [hw]; exact List.mem_cons_self
  refine ⟨⟨hrc, hrs, hR.1, hR.2, pay_in ht hG, hc⟩, ht _ (hG _ hc).1, ok _ (by simp [wsV]), ⟨hd.1, hd.2.1⟩, fun sig h => ?_, ok _ (by simp [wsV]), ok _ (by simp [wsV]), ok _ (by simp [wsV])⟩
  have h2 := hd.2.2
  rw [h] at h2
  exact (Option.some.inj h2).symm
theorem vx_runVW {y : MethodName} {bytes cc : ByteArray} {maxL nL mc ms n index : Nat} {ret : Option FieldType} {hh : List (Nat × Nat × Nat × Nat)} {ws : List Cond} {rm : Room} {Pc : Array Value → State → Prop} {Qc : Array Value → State → Outcome → State → Prop} {free : Addr → Prop} {Ts : List Cond} {own C : String} {b : Addr} {As rest : List Value} {g : JFrame}
    (S : CallFix p m c cc nL s args Ts own) (hM : Met l y ws rm Pc Qc mc ms free) (cw : vx_CVW R s args own C index y bytes maxL ret hh ws rm mc ms n) (hp : PreV s H C b Pc As)
    (hg : g.method = m) (hn : As.length = n) (hsize : g.locals.size = nL) (hstack : g.stack = As.reverse ++ .ref b :: rest) (hW : 2 * g.monitorRoom + (rest.map fun v => v.category).sum ≤ 8) (hdg : decode cc g.pc = .ok (.invokevirtual index, 3)) (hf : cells + mc ≤ R.cells ∧ slots + ms ≤ R.slots) :
    va_Run p l e R s m args below meth c H locs cells slots mc ms g rest (Qc (Value.ref b :: As).toArray) free := by
  obtain ⟨⟨hrc, hrs, hfr, hlo, hws, hcw⟩, hcode, hini, hy, hlen, hl, hin, hse⟩ := cw
  have hK : Back l R p e below s args y 3 8 (PreOf R mc ms Pc) (PostOf Qc mc ms free) := va_backW (hh := hh) (bytes := bytes) (maxL := maxL) (ret := ret) hM hp.1 hrc hrs hfr hlo hws hcw (fun a' U hW => word_at hW (Or.inl (by first | rfl | simp [Cond.onTables, Cond.keeps, Cond.steady])) hini)
  obtain ⟨hx, hb, hml, ho, -⟩ := S
  obtain ⟨-, ⟨cellB, hcB, hoB, hclB⟩, hPc⟩ := hp
  intro T hT X
  obtain ⟨v, vm₁, ⟨U', l2, c2, s2⟩, hW₁, X', ⟨g', mk, t, L, e1, e2, hq, h1, hL, h2, h3⟩, st⟩ := vx_callVW X hx (C := C) (hh := hh) (bytes := bytes) (maxL := maxL) (ret := ret) ho hl hin hse hcode hy hK (by rw [hT]; exact hcB) hoB hclB hg (hsize.trans hml.symm) (argsL := As) (rest := rest) (fun sig h => hn.trans (hlen sig h)) hstack hW (by rw [hb]; exact hdg)
    (fun vm₁ hW₁ => ⟨hf.1, hf.2, hPc (T.setVm vm₁) hT hW₁⟩)
  dsimp only [Pt.U, Pt.locs, Pt.cells, Pt.slots] at X' e1 e2 h1 h2 h3 st
  subst h1; subst h2; subst h3
  exact ⟨v, (T.setVm vm₁).calling g' mk (Value.ref b :: As).toArray, t, U', L, hT, X', hL, e1, e2, hq, st⟩
section
variable {y : MethodName} {bytes cc : ByteArray} {maxL nL mc ms n index : Nat} {ret : Option FieldType} {ws : List Cond} {rm : Room} {Pc : Array Value → State → Prop} {Qc : Array Value → State → Outcome → State → Prop} {XC : String → State → State → Prop} {free : Addr → Prop} {Ts : List Cond} {own C : String} {b : Addr} {As rest : List Value} {g : JFrame}
theorem vx_runVX {hh : List (Nat × Nat × Nat × Nat)} (S : CallFix p m c cc nL s args Ts own) (hM : vx_Met l y ws rm Pc Qc XC mc ms free) (cw : vx_CVW R s args own C index y bytes maxL ret hh ws rm mc ms n) (hp : PreV s H C b Pc As)
    (hg : g.method = m) (hn : As.length = n) (hsize : g.locals.size = nL) (hstack : g.stack = As.reverse ++ .ref b :: rest) (hW : 2 * g.monitorRoom + (rest.map fun v => v.category).sum ≤ 8) (hdg : decode cc g.pc = .ok (.invokevirtual index, 3)) (hf : cells + mc ≤ R.cells ∧ slots + ms ≤ R.slots) :
    vx_Run p l e R s m args below meth c H locs cells slots mc ms g rest (Qc (Value.ref b :: As).toArray) XC free := by
  obtain ⟨⟨hrc, hrs, hfr, hlo, hws, hcw⟩, hcode, hini, hy, hlen, hl, hin, hse⟩ := cw
  have hK : vx_Back l R p e below s args y 3 8 (PreOf R mc ms Pc) (PostOf Qc mc ms free) (vx_Post XC mc ms free) := vx_backW (hh := hh) (bytes := bytes) (maxL := maxL) (ret := ret) hM hp.1 hrc hrs hfr hlo hws hcw (fun a' U hW => word_at hW (Or.inl (by first | rfl | simp [Cond.onTables, Cond.keeps, Cond.steady])) hini)
  obtain ⟨hx, hb, hml, ho, -⟩ := S
  obtain ⟨-, ⟨cellB, hcB, hoB, hclB⟩, hPc⟩ := hp
  intro T hT X
  rcases vx_callVX X hx (C := C) (hh := hh) (bytes := bytes) (maxL := maxL) (ret := ret) ho hl hin hse hcode hy hK (by rw [hT]; exact hcB) hoB hclB hg (hsize.trans hml.symm) (argsL := As) (rest := rest) (fun sig h => hn.trans (hlen sig h)) hstack hW (by rw [hb]; exact hdg)
    (fun vm₁ hW₁ => ⟨hf.1, hf.2, hPc (T.setVm vm₁) hT hW₁⟩) with ⟨v, vm₁, ⟨U', l2, c2, s2⟩, hW₁, X', ⟨g', mk, t, L, e1, e2, hq, h1, hL, h2, h3⟩, st⟩ | ⟨q, vm₁, ⟨U', l2, c2, s2⟩, hW₁, X', ⟨g', mk, t, L, E, ce, e1, e2, hq, hce, hcv, hcl, h1, hL, h2, h3⟩, st⟩
  · dsimp only [Pt.U, Pt.locs, Pt.cells, Pt.slots] at X' e1 e2 h1 h2 h3 st
    subst h1; subst h2; subst h3
    exact Or.inl ⟨v, (T.setVm vm₁).calling g' mk (Value.ref b :: As).toArray, t, U', L, hT, X', hL, e1, e2, hq, st⟩
  · dsimp only [Pt.U, Pt.locs, Pt.cells, Pt.slots] at X' e1 e2 h1 h2 h3 st hcl
    subst h1; subst h2; subst h3
    exact Or.inr ⟨q, (T.setVm vm₁).calling g' mk (Value.ref b :: As).toArray, t, U', L, E, ce, hT, X', hL, e1, e2, hq, hce, hcv, vx_cls hW₁ hcl, st⟩
theorem vx_runSX {hh : List (Nat × Nat × Nat × Nat)} (S : CallFix p m c cc nL s args Ts own) (hM : vx_Met l y ws rm Pc Qc XC mc ms free) (cw : vx_CSW R s args own index y bytes maxL ret hh ws rm mc ms n) (hp : PreS s H Pc As)
    (hg : g.method = m) (hn : As.length = n) (hsize : g.locals.size = nL) (hstack : g.stack = As.reverse ++ rest) (hW : 2 * g.monitorRoom + (rest.map fun v => v.category).sum ≤ 8) (hdg : decode cc g.pc = .ok (.invokestatic index, 3)) (hf : cells + mc ≤ R.cells ∧ slots + ms ≤ R.slots) :
    vx_Run p l e R s m args below meth c H locs cells slots mc ms g rest (Qc As.toArray) XC free := by
  obtain ⟨⟨hrc, hrs, hfr, hlo, hws, hcw⟩, hcode, hini, hy, hlen, hl, hstt⟩ := cw
  have hK : vx_Back l R p e below s args y 3 8 (PreOf R mc ms Pc) (PostOf Qc mc ms free) (vx_Post XC mc ms free) := vx_backW (hh := hh) (bytes := bytes) (maxL := maxL) (ret := ret) hM hp.1 hrc hrs hfr hlo hws hcw (fun a' U hW => word_at hW (Or.inl (by first | rfl | simp [Cond.onTables, Cond.keeps, Cond.steady])) hini)
  obtain ⟨hx, hb, hml, ho, -⟩ := S
  intro T hT X
  rcases vx_callSX X hx (hh := hh) (bytes := bytes) (maxL := maxL) (ret := ret) ho hl hstt hini hcode hy hK hg (hsize.trans hml.symm) (argsL := As) (rest := rest) (fun sig h => hn.trans (hlen sig h)) hstack hW (by rw [hb]; exact hdg)
    (fun vm₁ hW₁ => ⟨hf.1, hf.2, hp.2 (T.setVm vm₁) hT hW₁⟩) with ⟨v, vm₁, ⟨U', l2, c2, s2⟩, hW₁, X', ⟨g', mk, t, L, e1, e2, hq, h1, hL, h2, h3⟩, st⟩ | ⟨q, vm₁, ⟨U', l2, c2, s2⟩, hW₁, X', ⟨g', mk, t, L, E, ce, e1, e2, hq, hce, hcv, hcl, h1, hL, h2, h3⟩, st⟩
  · dsimp only [Pt.U, Pt.locs, Pt.cells, Pt.slots] at X' e1 e2 h1 h2 h3 st
    subst h1; subst h2; subst h3
    exact Or.inl ⟨v, (T.setVm vm₁).calling g' mk As.toArray, t, U', L, hT, X', hL, e1, e2, hq, st⟩
  · dsimp only [Pt.U, Pt.locs, Pt.cells, Pt.slots] at X' e1 e2 h1 h2 h3 st hcl
    subst h1; subst h2; subst h3
    exact Or.inr ⟨q, (T.setVm vm₁).calling g' mk As.toArray, t, U', L, E, ce, hT, X', hL, e1, e2, hq, hce, hcv, vx_cls hW₁ hcl, st⟩
end
end VXH
theorem vx_ofWH {l : Launch} {y : MethodName} {ws ws' : List Cond} {rm : Room} {Pc : Array Value → State → Prop} {Qc : Array Value → State → Outcome → State → Prop} {XC : String → State → State → Prop} {mc ms : Nat} {free : Addr → Prop} {cc : ByteArray} {maxL : Nat} {ret : Option FieldType} {hh : List (Nat × Nat × Nat × Nat)}
    (hy : plainName y.cls = true) (hw : ws = Cond.codeWith y cc maxL ret hh :: ws')
    (body : ∀ p e s m args below meth c s₁, BodyLoose p l y (headSpec ws rm) cc maxL ret e s m args below meth c s₁ → c.maxLocals = maxL → Pc args s →
      W p l e (headSpec ws rm).room s m args below meth c s.heap [] 0 0 (vx_MQ below Qc XC args s mc ms free) (entryFrame m args maxL)) : vx_Met l y ws rm Pc Qc XC mc ms free := by
  refine MetFree.of_bodyS (code := cc) (maxLocals := maxL) (ret := ret) hy ?_ ?_
  · intro args s m h hn
    obtain ⟨m9, meth, c, hn9, h1, h2, h3, h4, -, h5, h6, -⟩ := Cond.codeWith_spec (atoms_spec (ws := ws) h _ (by rw [hw]; exact List.mem_cons_self))
    cases hn.symm.trans hn9
    exact ⟨meth, c, h1, h2, h3, h4, h5, h6⟩
  · intro p e s m args below meth c s₁ B hml hP _
    have hh0 : s₁.heap = s.heap := by rw [B.state]; rfl
    obtain ⟨t, a1, o, b1, b2, b3⟩ := body p e s m args below meth c s₁ B hml hP s₁ hh0 (Stand.of_body B)
    exact ⟨t, o, a1, b1, b2, b3⟩
/-! ===== END ===== -/

/-! ===== BEGIN printed: names, fields, word lists, decode rows ===== -/
def R_VS : String := "VaryStore"
def F_VS : u_T := fun k => match k with
  | 0 => ("VaryStore", "tape", "LVaryStore$Row;", true)
  | 1 => ("VaryStore", "shelf", "LVaryStore$Shelf;", true)
  | 2 => ("VaryStore", "request", "LVaryStore$Text;", false)
  | 3 => ("VaryStore", "draft", "LVaryStore$Text;", false)
  | 4 => ("VaryStore", "faultPlace", "I", false)
  | 5 => ("VaryStore", "time", "I", false)
  | 6 => ("VaryStore", "name", "LVaryStore$Row;", true)
  | 7 => ("VaryStore", "value", "LVaryStore$Row;", true)
  | 8 => ("VaryStore", "words", "LVaryStore$Items;", true)
  | 9 => ("VaryStore", "left", "LVaryStore$Items;", true)
  | _ => ("VaryStore", "right", "LVaryStore$Items;", true)
def t_VS : Nat → FieldType := fun k => match k with
  | 0 => .object "VaryStore$Row"
  | 1 => .object "VaryStore$Shelf"
  | 2 => .object "VaryStore$Text"
  | 3 => .object "VaryStore$Text"
  | 4 => .int
  | 5 => .int
  | 6 => .object "VaryStore$Row"
  | 7 => .object "VaryStore$Row"
  | 8 => .object "VaryStore$Items"
  | 9 => .object "VaryStore$Items"
  | _ => .object "VaryStore$Items"
theorem n_VS : ∀ a, a < 11 → ∀ b, b < 11 → a ≠ b → (F_VS a).2.1 ≠ (F_VS b).2.1 := by decide +kernel
theorem to_VS : ∀ k, k < 11 → parseFieldDescriptor (F_VS k).2.2.1 = some (t_VS k) := by decide +kernel
def R_It : String := "VaryStore$Items"
def F_It : u_T := fun k => match k with
  | 0 => ("VaryStore$Items", "row", "LVaryStore$Row;", true)
  | 1 => ("VaryStore$Items", "ends", "[I", true)
  | _ => ("VaryStore$Items", "count", "I", false)
def t_It : Nat → FieldType := fun k => match k with
  | 0 => .object "VaryStore$Row"
  | 1 => .array (.int)
  | _ => .int
theorem n_It : ∀ a, a < 3 → ∀ b, b < 3 → a ≠ b → (F_It a).2.1 ≠ (F_It b).2.1 := by decide +kernel
theorem to_It : ∀ k, k < 3 → parseFieldDescriptor (F_It k).2.2.1 = some (t_It k) := by decide +kernel
def R_Ro : String := "VaryStore$Row"
def F_Ro : u_T := fun k => match k with
  | 0 => ("VaryStore$Row", "letters", "[C", true)
  | _ => ("VaryStore$Row", "length", "I", false)
def t_Ro : Nat → FieldType := fun k => match k with
  | 0 => .array (.char)
  | _ => .int
theorem n_Ro : ∀ a, a < 2 → ∀ b, b < 2 → a ≠ b → (F_Ro a).2.1 ≠ (F_Ro b).2.1 := by decide +kernel
theorem to_Ro : ∀ k, k < 2 → parseFieldDescriptor (F_Ro k).2.2.1 = some (t_Ro k) := by decide +kernel
def R_Sh : String := "VaryStore$Shelf"
def F_Sh : u_T := fun k => match k with
  | 0 => ("VaryStore$Shelf", "all", "[LVaryStore$Thing;", true)
  | 1 => ("VaryStore$Shelf", "count", "I", false)
  | _ => ("VaryStore$Shelf", "uses", "I", false)
def t_Sh : Nat → FieldType := fun k => match k with
  | 0 => .array (.object "VaryStore$Thing")
  | 1 => .int
  | _ => .int
theorem n_Sh : ∀ a, a < 3 → ∀ b, b < 3 → a ≠ b → (F_Sh a).2.1 ≠ (F_Sh b).2.1 := by decide +kernel
theorem to_Sh : ∀ k, k < 3 → parseFieldDescriptor (F_Sh k).2.2.1 = some (t_Sh k) := by decide +kernel
def R_Te : String := "VaryStore$Text"
def F_Te : u_T := fun k => match k with
  | 0 => ("VaryStore$Text", "row", "LVaryStore$Row;", true)
  | 1 => ("VaryStore$Text", "starts", "[I", true)
  | 2 => ("VaryStore$Text", "colons", "[I", true)
  | 3 => ("VaryStore$Text", "ends", "[I", true)
  | _ => ("VaryStore$Text", "lines", "I", false)
def t_Te : Nat → FieldType := fun k => match k with
  | 0 => .object "VaryStore$Row"
  | 1 => .array (.int)
  | 2 => .array (.int)
  | 3 => .array (.int)
  | _ => .int
theorem n_Te : ∀ a, a < 5 → ∀ b, b < 5 → a ≠ b → (F_Te a).2.1 ≠ (F_Te b).2.1 := by decide +kernel
theorem to_Te : ∀ k, k < 5 → parseFieldDescriptor (F_Te k).2.2.1 = some (t_Te k) := by decide +kernel
def R_Th : String := "VaryStore$Thing"
def F_Th : u_T := fun k => match k with
  | 0 => ("VaryStore$Thing", "etag", "LVaryStore$Row;", true)
  | 1 => ("VaryStore$Thing", "vary", "LVaryStore$Items;", true)
  | 2 => ("VaryStore$Thing", "request", "LVaryStore$Text;", true)
  | 3 => ("VaryStore$Thing", "path", "I", false)
  | 4 => ("VaryStore$Thing", "sharedMaxAge", "I", false)
  | 5 => ("VaryStore$Thing", "maxAge", "I", false)
  | 6 => ("VaryStore$Thing", "secret", "Z", false)
  | 7 => ("VaryStore$Thing", "unsure", "Z", false)
  | 8 => ("VaryStore$Thing", "strict", "Z", false)
  | 9 => ("VaryStore$Thing", "life", "I", false)
  | 10 => ("VaryStore$Thing", "age", "I", false)
  | 11 => ("VaryStore$Thing", "since", "I", false)
  | _ => ("VaryStore$Thing", "used", "I", false)
def t_Th : Nat → FieldType := fun k => match k with
  | 0 => .object "VaryStore$Row"
  | 1 => .object "VaryStore$Items"
  | 2 => .object "VaryStore$Text"
  | 3 => .int
  | 4 => .int
  | 5 => .int
  | 6 => .boolean
  | 7 => .boolean
  | 8 => .boolean
  | 9 => .int
  | 10 => .int
  | 11 => .int
  | _ => .int
theorem n_Th : ∀ a, a < 13 → ∀ b, b < 13 → a ≠ b → (F_Th a).2.1 ≠ (F_Th b).2.1 := by decide +kernel
theorem to_Th : ∀ k, k < 13 → parseFieldDescriptor (F_Th k).2.2.1 = some (t_Th k) := by decide +kernel
def R_Mo : String := "VaryStoreModel"
def F_Mo : u_T := fun k => match k with
  | 0 => ("VaryStoreModel", "tape", "[I", true)
  | 1 => ("VaryStoreModel", "tapeLong", "I", false)
  | 2 => ("VaryStoreModel", "fault", "I", false)
  | 3 => ("VaryStoreModel", "time", "I", false)
  | 4 => ("VaryStoreModel", "thrown", "I", false)
  | 5 => ("VaryStoreModel", "events", "J", false)
  | 6 => ("VaryStoreModel", "request", "LVaryStoreModel$Text;", false)
  | 7 => ("VaryStoreModel", "things", "[LVaryStoreModel$Thing;", true)
  | _ => ("VaryStoreModel", "many", "I", false)
def t_Mo : Nat → FieldType := fun k => match k with
  | 0 => .array (.int)
  | 1 => .int
  | 2 => .int
  | 3 => .int
  | 4 => .int
  | 5 => .long
  | 6 => .object "VaryStoreModel$Text"
  | 7 => .array (.object "VaryStoreModel$Thing")
  | _ => .int
theorem n_Mo : ∀ a, a < 9 → ∀ b, b < 9 → a ≠ b → (F_Mo a).2.1 ≠ (F_Mo b).2.1 := by decide +kernel
theorem to_Mo : ∀ k, k < 9 → parseFieldDescriptor (F_Mo k).2.2.1 = some (t_Mo k) := by decide +kernel
def R_MT : String := "VaryStoreModel$Text"
def F_MT : u_T := fun k => match k with
  | 0 => ("VaryStoreModel$Text", "chars", "[I", true)
  | 1 => ("VaryStoreModel$Text", "lines", "I", false)
  | 2 => ("VaryStoreModel$Text", "begin", "[I", true)
  | 3 => ("VaryStoreModel$Text", "colon", "[I", true)
  | _ => ("VaryStoreModel$Text", "end", "[I", true)
def t_MT : Nat → FieldType := fun k => match k with
  | 0 => .array (.int)
  | 1 => .int
  | 2 => .array (.int)
  | 3 => .array (.int)
  | _ => .array (.int)
theorem n_MT : ∀ a, a < 5 → ∀ b, b < 5 → a ≠ b → (F_MT a).2.1 ≠ (F_MT b).2.1 := by decide +kernel
theorem to_MT : ∀ k, k < 5 → parseFieldDescriptor (F_MT k).2.2.1 = some (t_MT k) := by decide +kernel
def R_Mg : String := "VaryStoreModel$Thing"
def F_Mg : u_T := fun k => match k with
  | 0 => ("VaryStoreModel$Thing", "path", "I", false)
  | 1 => ("VaryStoreModel$Thing", "sMaxAge", "I", false)
  | 2 => ("VaryStoreModel$Thing", "maxAge", "I", false)
  | 3 => ("VaryStoreModel$Thing", "life", "I", false)
  | 4 => ("VaryStoreModel$Thing", "age", "I", false)
  | 5 => ("VaryStoreModel$Thing", "since", "I", false)
  | 6 => ("VaryStoreModel$Thing", "noCache", "Z", false)
  | 7 => ("VaryStoreModel$Thing", "mustAsk", "Z", false)
  | 8 => ("VaryStoreModel$Thing", "etag", "[I", false)
  | 9 => ("VaryStoreModel$Thing", "vary", "[[I", false)
  | 10 => ("VaryStoreModel$Thing", "values", "[[I", false)
  | _ => ("VaryStoreModel$Thing", "used", "J", false)
def t_Mg : Nat → FieldType := fun k => match k with
  | 0 => .int
  | 1 => .int
  | 2 => .int
  | 3 => .int
  | 4 => .int
  | 5 => .int
  | 6 => .boolean
  | 7 => .boolean
  | 8 => .array (.int)
  | 9 => .array (.array (.int))
  | 10 => .array (.array (.int))
  | _ => .long
theorem n_Mg : ∀ a, a < 12 → ∀ b, b < 12 → a ≠ b → (F_Mg a).2.1 ≠ (F_Mg b).2.1 := by decide +kernel
theorem to_Mg : ∀ k, k < 12 → parseFieldDescriptor (F_Mg k).2.2.1 = some (t_Mg k) := by decide +kernel
abbrev cls : List vw_C := [(R_VS, F_VS, 11), (R_It, F_It, 3), (R_Ro, F_Ro, 2), (R_Sh, F_Sh, 3), (R_Te, F_Te, 5), (R_Th, F_Th, 13), (R_Mo, F_Mo, 9), (R_MT, F_MT, 5), (R_Mg, F_Mg, 12)]
/-- the words that ride through calls -/
def TB : List Cond := lw_tbl.filter goodWord
abbrev b_VS_init : ByteArray := prog_1_method_1_code
def y_VS_init : MethodName := ⟨"VaryStore", "<init>", "()V"⟩
abbrev b_Ro_init : ByteArray := prog_3_method_1_code
def y_Ro_init : MethodName := ⟨"VaryStore$Row", "<init>", "()V"⟩
abbrev b_Sh_init : ByteArray := prog_4_method_1_code
def y_Sh_init : MethodName := ⟨"VaryStore$Shelf", "<init>", "()V"⟩
abbrev b_Te_init : ByteArray := prog_5_method_1_code
def y_Te_init : MethodName := ⟨"VaryStore$Text", "<init>", "()V"⟩
abbrev b_It_init : ByteArray := prog_2_method_1_code
def y_It_init : MethodName := ⟨"VaryStore$Items", "<init>", "()V"⟩
abbrev b_VS_type : ByteArray := prog_1_method_2_code
def y_VS_type : MethodName := ⟨"VaryStore", "type", "(JI)Z"⟩
abbrev b_VS_byteOf : ByteArray := prog_1_method_12_code
def y_VS_byteOf : MethodName := ⟨"VaryStore", "byteOf", "(JI)I"⟩
abbrev b_VS_mayBeTyped : ByteArray := prog_1_method_13_code
def y_VS_mayBeTyped : MethodName := ⟨"VaryStore", "mayBeTyped", "(I)Z"⟩
abbrev b_Ro_add : ByteArray := prog_3_method_3_code
def y_Ro_add : MethodName := ⟨"VaryStore$Row", "add", "(C)V"⟩
abbrev b_VS_fault : ByteArray := prog_1_method_6_code
def y_VS_fault : MethodName := ⟨"VaryStore", "fault", "()I"⟩
abbrev b_VS_purge : ByteArray := prog_1_method_7_code
def y_VS_purge : MethodName := ⟨"VaryStore", "purge", "(I)I"⟩
abbrev b_Sh_at : ByteArray := prog_4_method_2_code
def y_Sh_at : MethodName := ⟨"VaryStore$Shelf", "at", "(I)LVaryStore$Thing;"⟩
abbrev b_Sh_drop : ByteArray := prog_4_method_6_code
def y_Sh_drop : MethodName := ⟨"VaryStore$Shelf", "drop", "(I)V"⟩
abbrev b_Sh_moveToEnd : ByteArray := prog_4_method_8_code
def y_Sh_moveToEnd : MethodName := ⟨"VaryStore$Shelf", "moveToEnd", "(I)V"⟩
abbrev b_VS_things : ByteArray := prog_1_method_10_code
def y_VS_things : MethodName := ⟨"VaryStore", "things", "()I"⟩
abbrev b_La_ask : ByteArray := method_3_code
def y_La_ask : MethodName := ⟨"VaryStoreLaw", "ask", "(LVaryStore;I[J)I"⟩
abbrev b_VS_ask : ByteArray := prog_1_method_3_code
def y_VS_ask : MethodName := ⟨"VaryStore", "ask", "(I)I"⟩
abbrev b_VS_readTape : ByteArray := prog_1_method_14_code
def y_VS_readTape : MethodName := ⟨"VaryStore", "readTape", "(I)V"⟩
abbrev b_Te_read : ByteArray := prog_5_method_3_code
def y_Te_read : MethodName := ⟨"VaryStore$Text", "read", "(LVaryStore$Row;)I"⟩
abbrev b_Ro_copy : ByteArray := prog_3_method_6_code
def y_Ro_copy : MethodName := ⟨"VaryStore$Row", "copy", "(LVaryStore$Row;)V"⟩
abbrev b_Ro_at : ByteArray := prog_3_method_7_code
def y_Ro_at : MethodName := ⟨"VaryStore$Row", "at", "(I)C"⟩
abbrev b_Te_addLine : ByteArray := prog_5_method_4_code
def y_Te_addLine : MethodName := ⟨"VaryStore$Text", "addLine", "(II)Z"⟩
abbrev b_Ro_isOfName : ByteArray := prog_3_method_16_code
def y_Ro_isOfName : MethodName := ⟨"VaryStore$Row", "isOfName", "(C)Z"⟩
abbrev b_Ro_small : ByteArray := prog_3_method_14_code
def y_Ro_small : MethodName := ⟨"VaryStore$Row", "small", "(C)C"⟩
abbrev b_Ro_isDigit : ByteArray := prog_3_method_15_code
def y_Ro_isDigit : MethodName := ⟨"VaryStore$Row", "isDigit", "(C)Z"⟩
abbrev b_Ro_makeSmall : ByteArray := prog_3_method_10_code
def y_Ro_makeSmall : MethodName := ⟨"VaryStore$Row", "makeSmall", "(II)V"⟩
abbrev b_Ma_max : ByteArray := prog_13_method_65_code
def y_Ma_max : MethodName := ⟨"java/lang/Math", "max", "(II)I"⟩
abbrev b_Ro_clear : ByteArray := prog_3_method_2_code
def y_Ro_clear : MethodName := ⟨"VaryStore$Row", "clear", "()V"⟩
abbrev b_VS_cutList : ByteArray := prog_1_method_16_code
def y_VS_cutList : MethodName := ⟨"VaryStore", "cutList", "(LVaryStore$Text;Ljava/lang/String;LVaryStore$Items;)Z"⟩
abbrev b_VS_gather : ByteArray := prog_1_method_15_code
def y_VS_gather : MethodName := ⟨"VaryStore", "gather", "(LVaryStore$Text;Ljava/lang/String;)Z"⟩
abbrev b_Ro_set : ByteArray := prog_3_method_5_code
def y_Ro_set : MethodName := ⟨"VaryStore$Row", "set", "(Ljava/lang/String;)V"⟩
abbrev b_St_length : ByteArray := prog_15_method_54_code
def y_St_length : MethodName := ⟨"java/lang/String", "length", "()I"⟩
abbrev b_St_coder : ByteArray := prog_15_method_152_code
def y_St_coder : MethodName := ⟨"java/lang/String", "coder", "()B"⟩
abbrev b_St_charAt : ByteArray := prog_15_method_56_code
def y_St_charAt : MethodName := ⟨"java/lang/String", "charAt", "(I)C"⟩
abbrev b_St_isLatin1 : ByteArray := prog_15_method_154_code
def y_St_isLatin1 : MethodName := ⟨"java/lang/String", "isLatin1", "()Z"⟩
abbrev b_L1_charAt : ByteArray := prog_16_method_2_code
def y_L1_charAt : MethodName := ⟨"java/lang/StringLatin1", "charAt", "([BI)C"⟩
abbrev b_St_checkIndex : ByteArray := prog_15_method_155_code
def y_St_checkIndex : MethodName := ⟨"java/lang/String", "checkIndex", "(II)V"⟩
abbrev b_Pr_checkIndex : ByteArray := prog_21_method_11_code
def y_Pr_checkIndex : MethodName := ⟨"jdk/internal/util/Preconditions", "checkIndex", "(IILjava/util/function/BiFunction;)I"⟩
abbrev b_Te_gather : ByteArray := prog_5_method_5_code
def y_Te_gather : MethodName := ⟨"VaryStore$Text", "gather", "(LVaryStore$Row;LVaryStore$Row;)Z"⟩
abbrev b_Ro_samePart : ByteArray := prog_3_method_9_code
def y_Ro_samePart : MethodName := ⟨"VaryStore$Row", "samePart", "(ILVaryStore$Row;)Z"⟩
abbrev b_Ro_skipBlanks : ByteArray := prog_3_method_11_code
def y_Ro_skipBlanks : MethodName := ⟨"VaryStore$Row", "skipBlanks", "(II)I"⟩
abbrev b_Ro_skipBlanksBack : ByteArray := prog_3_method_12_code
def y_Ro_skipBlanksBack : MethodName := ⟨"VaryStore$Row", "skipBlanksBack", "(II)I"⟩
abbrev b_Ro_addPart : ByteArray := prog_3_method_4_code
def y_Ro_addPart : MethodName := ⟨"VaryStore$Row", "addPart", "(LVaryStore$Row;II)V"⟩
abbrev b_It_cut : ByteArray := prog_2_method_2_code
def y_It_cut : MethodName := ⟨"VaryStore$Items", "cut", "(LVaryStore$Row;)V"⟩
abbrev b_It_addItem : ByteArray := prog_2_method_3_code
def y_It_addItem : MethodName := ⟨"VaryStore$Items", "addItem", "(LVaryStore$Row;II)V"⟩
abbrev b_VS_placeOfTheOne : ByteArray := prog_1_method_22_code
def y_VS_placeOfTheOne : MethodName := ⟨"VaryStore", "placeOfTheOne", "(I)I"⟩
abbrev b_VS_isAlike : ByteArray := prog_1_method_23_code
def y_VS_isAlike : MethodName := ⟨"VaryStore", "isAlike", "(LVaryStore$Thing;)Z"⟩
abbrev b_It_copyItem : ByteArray := prog_2_method_6_code
def y_It_copyItem : MethodName := ⟨"VaryStore$Items", "copyItem", "(ILVaryStore$Row;)V"⟩
abbrev b_It_startOf : ByteArray := prog_2_method_4_code
def y_It_startOf : MethodName := ⟨"VaryStore$Items", "startOf", "(I)I"⟩
abbrev b_It_endOf : ByteArray := prog_2_method_5_code
def y_It_endOf : MethodName := ⟨"VaryStore$Items", "endOf", "(I)I"⟩
abbrev b_It_same : ByteArray := prog_2_method_8_code
def y_It_same : MethodName := ⟨"VaryStore$Items", "same", "(LVaryStore$Items;)Z"⟩
abbrev b_Ro_same : ByteArray := prog_3_method_8_code
def y_Ro_same : MethodName := ⟨"VaryStore$Row", "same", "(LVaryStore$Row;)Z"⟩
abbrev b_VS_judge : ByteArray := prog_1_method_24_code
def y_VS_judge : MethodName := ⟨"VaryStore", "judge", "(LVaryStore$Thing;)I"⟩
abbrev b_Th_ageAt : ByteArray := prog_6_method_3_code
def y_Th_ageAt : MethodName := ⟨"VaryStore$Thing", "ageAt", "(I)I"⟩
abbrev b_It_said : ByteArray := prog_2_method_11_code
def y_It_said : MethodName := ⟨"VaryStore$Items", "said", "(Ljava/lang/String;)I"⟩
abbrev b_It_saysItem : ByteArray := prog_2_method_12_code
def y_It_saysItem : MethodName := ⟨"VaryStore$Items", "saysItem", "(IILjava/lang/String;)I"⟩
abbrev b_It_begins : ByteArray := prog_2_method_13_code
def y_It_begins : MethodName := ⟨"VaryStore$Items", "begins", "(ILjava/lang/String;)Z"⟩
abbrev b_Ro_number : ByteArray := prog_3_method_13_code
def y_Ro_number : MethodName := ⟨"VaryStore$Row", "number", "(II)I"⟩
abbrev b_It_has : ByteArray := prog_2_method_10_code
def y_It_has : MethodName := ⟨"VaryStore$Items", "has", "(Ljava/lang/String;)Z"⟩
abbrev b_Th_isFreshAt : ByteArray := prog_6_method_4_code
def y_Th_isFreshAt : MethodName := ⟨"VaryStore$Thing", "isFreshAt", "(I)Z"⟩
abbrev b_Sh_use : ByteArray := prog_4_method_5_code
def y_Sh_use : MethodName := ⟨"VaryStore$Shelf", "use", "(LVaryStore$Thing;)V"⟩
abbrev b_La_keep : ByteArray := method_4_code
def y_La_keep : MethodName := ⟨"VaryStoreLaw", "keep", "(LVaryStore;I[J)I"⟩
abbrev b_VS_keep : ByteArray := prog_1_method_4_code
def y_VS_keep : MethodName := ⟨"VaryStore", "keep", "(I)Z"⟩
abbrev b_Sh_spare : ByteArray := prog_4_method_3_code
def y_Sh_spare : MethodName := ⟨"VaryStore$Shelf", "spare", "()LVaryStore$Thing;"⟩
abbrev b_Th_init : ByteArray := prog_6_method_1_code
def y_Th_init : MethodName := ⟨"VaryStore$Thing", "<init>", "()V"⟩
abbrev b_VS_describe : ByteArray := prog_1_method_18_code
def y_VS_describe : MethodName := ⟨"VaryStore", "describe", "(LVaryStore$Thing;I)V"⟩
abbrev b_Te_copy : ByteArray := prog_5_method_2_code
def y_Te_copy : MethodName := ⟨"VaryStore$Text", "copy", "(LVaryStore$Text;)V"⟩
abbrev b_It_makeSmall : ByteArray := prog_2_method_7_code
def y_It_makeSmall : MethodName := ⟨"VaryStore$Items", "makeSmall", "()V"⟩
abbrev b_Th_obey : ByteArray := prog_6_method_2_code
def y_Th_obey : MethodName := ⟨"VaryStore$Thing", "obey", "(LVaryStore$Items;)V"⟩
abbrev b_VS_startLife : ByteArray := prog_1_method_19_code
def y_VS_startLife : MethodName := ⟨"VaryStore", "startLife", "(LVaryStore$Thing;)V"⟩
abbrev b_VS_numberOf : ByteArray := prog_1_method_17_code
def y_VS_numberOf : MethodName := ⟨"VaryStore", "numberOf", "(Ljava/lang/String;)I"⟩
abbrev b_VS_placeOfSame : ByteArray := prog_1_method_21_code
def y_VS_placeOfSame : MethodName := ⟨"VaryStore", "placeOfSame", "(LVaryStore$Thing;)I"⟩
abbrev b_VS_mayBeKept : ByteArray := prog_1_method_20_code
def y_VS_mayBeKept : MethodName := ⟨"VaryStore", "mayBeKept", "(LVaryStore$Thing;)Z"⟩
abbrev b_It_holds : ByteArray := prog_2_method_9_code
def y_It_holds : MethodName := ⟨"VaryStore$Items", "holds", "(Ljava/lang/String;)Z"⟩
abbrev b_Sh_placeOfLongestUnused : ByteArray := prog_4_method_9_code
def y_Sh_placeOfLongestUnused : MethodName := ⟨"VaryStore$Shelf", "placeOfLongestUnused", "()I"⟩
abbrev b_Sh_addSpare : ByteArray := prog_4_method_4_code
def y_Sh_addSpare : MethodName := ⟨"VaryStore$Shelf", "addSpare", "()V"⟩
abbrev b_La_again : ByteArray := method_5_code
def y_La_again : MethodName := ⟨"VaryStoreLaw", "again", "(LVaryStore;I[J)I"⟩
abbrev b_VS_again : ByteArray := prog_1_method_5_code
def y_VS_again : MethodName := ⟨"VaryStore", "again", "(I)Z"⟩
abbrev b_Sh_putLast : ByteArray := prog_4_method_7_code
def y_Sh_putLast : MethodName := ⟨"VaryStore$Shelf", "putLast", "(I)V"⟩
abbrev b_La_pass : ByteArray := method_6_code
def y_La_pass : MethodName := ⟨"VaryStoreLaw", "pass", "(LVaryStore;I[J)I"⟩
abbrev b_VS_pass : ByteArray := prog_1_method_8_code
def y_VS_pass : MethodName := ⟨"VaryStore", "pass", "(I)I"⟩
abbrev b_La_thing : ByteArray := method_7_code
def y_La_thing : MethodName := ⟨"VaryStoreLaw", "thing", "(LVaryStore;II[J)I"⟩
abbrev b_VS_thing : ByteArray := prog_1_method_9_code
def y_VS_thing : MethodName := ⟨"VaryStore", "thing", "(II)I"⟩
abbrev b_VS_letterOfEtag : ByteArray := prog_1_method_11_code
def y_VS_letterOfEtag : MethodName := ⟨"VaryStore", "letterOfEtag", "(LVaryStore$Thing;I)I"⟩
abbrev b_Mo_init : ByteArray := prog_8_method_1_code
def y_Mo_init : MethodName := ⟨"VaryStoreModel", "<init>", "()V"⟩
abbrev b_MT_init : ByteArray := prog_9_method_1_code
def y_MT_init : MethodName := ⟨"VaryStoreModel$Text", "<init>", "(I)V"⟩
abbrev b_Mo_thrown : ByteArray := prog_8_method_2_code
def y_Mo_thrown : MethodName := ⟨"VaryStoreModel", "thrown", "()I"⟩
abbrev b_Mo_type : ByteArray := prog_8_method_3_code
def y_Mo_type : MethodName := ⟨"VaryStoreModel", "type", "(JI)Z"⟩
abbrev b_Mo_ask : ByteArray := prog_8_method_35_code
def y_Mo_ask : MethodName := ⟨"VaryStoreModel", "ask", "(I)I"⟩
abbrev b_Mo_read : ByteArray := prog_8_method_8_code
def y_Mo_read : MethodName := ⟨"VaryStoreModel", "read", "()LVaryStoreModel$Text;"⟩
abbrev b_Mo_isName : ByteArray := prog_8_method_7_code
def y_Mo_isName : MethodName := ⟨"VaryStoreModel", "isName", "([III)Z"⟩
abbrev b_Mo_isNameSign : ByteArray := prog_8_method_6_code
def y_Mo_isNameSign : MethodName := ⟨"VaryStoreModel", "isNameSign", "(I)Z"⟩
abbrev b_Mo_isDigit : ByteArray := prog_8_method_5_code
def y_Mo_isDigit : MethodName := ⟨"VaryStoreModel", "isDigit", "(I)Z"⟩
abbrev b_Mo_isPath : ByteArray := prog_8_method_33_code
def y_Mo_isPath : MethodName := ⟨"VaryStoreModel", "isPath", "(I)Z"⟩
abbrev b_Mo_cacheControl : ByteArray := prog_8_method_22_code
def y_Mo_cacheControl : MethodName := ⟨"VaryStoreModel", "cacheControl", "()[I"⟩
abbrev b_Mo_name : ByteArray := prog_8_method_14_code
def y_Mo_name : MethodName := ⟨"VaryStoreModel", "name", "(JJ)[I"⟩
abbrev b_Mo_valueOf : ByteArray := prog_8_method_13_code
def y_Mo_valueOf : MethodName := ⟨"VaryStoreModel", "valueOf", "(LVaryStoreModel$Text;[I)[I"⟩
abbrev b_Mo_small : ByteArray := prog_8_method_4_code
def y_Mo_small : MethodName := ⟨"VaryStoreModel", "small", "(I)I"⟩
abbrev b_Mo_trimmed : ByteArray := prog_8_method_9_code
def y_Mo_trimmed : MethodName := ⟨"VaryStoreModel", "trimmed", "([III)[I"⟩
abbrev b_Mo_joined : ByteArray := prog_8_method_12_code
def y_Mo_joined : MethodName := ⟨"VaryStoreModel", "joined", "([I[I)[I"⟩
abbrev b_Mo_theOne : ByteArray := prog_8_method_32_code
def y_Mo_theOne : MethodName := ⟨"VaryStoreModel", "theOne", "(I)I"⟩
abbrev b_Mo_alike : ByteArray := prog_8_method_17_code
def y_Mo_alike : MethodName := ⟨"VaryStoreModel", "alike", "([I[I)Z"⟩
abbrev b_Mo_list : ByteArray := prog_8_method_15_code
def y_Mo_list : MethodName := ⟨"VaryStoreModel", "list", "([I)[[I"⟩
abbrev b_Mo_sameList : ByteArray := prog_8_method_16_code
def y_Mo_sameList : MethodName := ⟨"VaryStoreModel", "sameList", "([[I[[I)Z"⟩
abbrev b_Mo_same : ByteArray := prog_8_method_10_code
def y_Mo_same : MethodName := ⟨"VaryStoreModel", "same", "([I[I)Z"⟩
abbrev b_Mo_answer : ByteArray := prog_8_method_34_code
def y_Mo_answer : MethodName := ⟨"VaryStoreModel", "answer", "(LVaryStoreModel$Thing;[I)I"⟩
abbrev b_Mo_has : ByteArray := prog_8_method_23_code
def y_Mo_has : MethodName := ⟨"VaryStoreModel", "has", "([IJJ)Z"⟩
abbrev b_Mo_word : ByteArray := prog_8_method_20_code
def y_Mo_word : MethodName := ⟨"VaryStoreModel", "word", "([I[I)I"⟩
abbrev b_Mo_smallOf : ByteArray := prog_8_method_11_code
def y_Mo_smallOf : MethodName := ⟨"VaryStoreModel", "smallOf", "([I)[I"⟩
abbrev b_Mo_numberOf : ByteArray := prog_8_method_18_code
def y_Mo_numberOf : MethodName := ⟨"VaryStoreModel", "numberOf", "([II)I"⟩
abbrev b_Mo_ageOf : ByteArray := prog_8_method_26_code
def y_Mo_ageOf : MethodName := ⟨"VaryStoreModel", "ageOf", "(LVaryStoreModel$Thing;)I"⟩
abbrev b_Mo_isFresh : ByteArray := prog_8_method_27_code
def y_Mo_isFresh : MethodName := ⟨"VaryStoreModel", "isFresh", "(LVaryStoreModel$Thing;)Z"⟩
abbrev b_Mo_use : ByteArray := prog_8_method_28_code
def y_Mo_use : MethodName := ⟨"VaryStoreModel", "use", "(LVaryStoreModel$Thing;)V"⟩
abbrev b_Mo_keep : ByteArray := prog_8_method_37_code
def y_Mo_keep : MethodName := ⟨"VaryStoreModel", "keep", "(I)Z"⟩
abbrev b_Mg_init : ByteArray := prog_10_method_1_code
def y_Mg_init : MethodName := ⟨"VaryStoreModel$Thing", "<init>", "()V"⟩
abbrev b_Mo_etagOf : ByteArray := prog_8_method_21_code
def y_Mo_etagOf : MethodName := ⟨"VaryStoreModel", "etagOf", "(LVaryStoreModel$Text;)[I"⟩
abbrev b_Mo_setWords : ByteArray := prog_8_method_24_code
def y_Mo_setWords : MethodName := ⟨"VaryStoreModel", "setWords", "(LVaryStoreModel$Thing;[I)V"⟩
abbrev b_Mo_setTimes : ByteArray := prog_8_method_25_code
def y_Mo_setTimes : MethodName := ⟨"VaryStoreModel", "setTimes", "(LVaryStoreModel$Thing;LVaryStoreModel$Text;)V"⟩
abbrev b_Mo_numberIn : ByteArray := prog_8_method_19_code
def y_Mo_numberIn : MethodName := ⟨"VaryStoreModel", "numberIn", "(LVaryStoreModel$Text;[I)I"⟩
abbrev b_Mo_placeOf : ByteArray := prog_8_method_31_code
def y_Mo_placeOf : MethodName := ⟨"VaryStoreModel", "placeOf", "(LVaryStoreModel$Thing;)I"⟩
abbrev b_Mo_takeOut : ByteArray := prog_8_method_29_code
def y_Mo_takeOut : MethodName := ⟨"VaryStoreModel", "takeOut", "(I)V"⟩
abbrev b_Mo_hasStar : ByteArray := prog_8_method_36_code
def y_Mo_hasStar : MethodName := ⟨"VaryStoreModel", "hasStar", "([[I)Z"⟩
abbrev b_Mo_putLast : ByteArray := prog_8_method_30_code
def y_Mo_putLast : MethodName := ⟨"VaryStoreModel", "putLast", "(LVaryStoreModel$Thing;)V"⟩
abbrev b_Mo_longestAgo : ByteArray := prog_8_method_38_code
def y_Mo_longestAgo : MethodName := ⟨"VaryStoreModel", "longestAgo", "()I"⟩
abbrev b_Mo_again : ByteArray := prog_8_method_39_code
def y_Mo_again : MethodName := ⟨"VaryStoreModel", "again", "(I)Z"⟩
abbrev b_Mo_fault : ByteArray := prog_8_method_40_code
def y_Mo_fault : MethodName := ⟨"VaryStoreModel", "fault", "()I"⟩
abbrev b_Mo_purge : ByteArray := prog_8_method_41_code
def y_Mo_purge : MethodName := ⟨"VaryStoreModel", "purge", "(I)I"⟩
abbrev b_Mo_pass : ByteArray := prog_8_method_42_code
def y_Mo_pass : MethodName := ⟨"VaryStoreModel", "pass", "(I)I"⟩
abbrev b_Mo_thing : ByteArray := prog_8_method_43_code
def y_Mo_thing : MethodName := ⟨"VaryStoreModel", "thing", "(II)I"⟩
abbrev b_Mo_things : ByteArray := prog_8_method_44_code
def y_Mo_things : MethodName := ⟨"VaryStoreModel", "things", "()I"⟩
end
section
def nLit : Nat := 22
def lenLit : List Nat := [13, 14, 4, 29, 22, 24, 17, 21, 4, 7, 4, 3, 1, 8, 7, 8, 9, 9, 8, 7, 15, 16]
def bytLit : List (List Int32) := [[99, 97, 99, 104, 101, 45, 99, 111, 110, 116, 114, 111, 108], [111, 110, 108, 121, 45, 105, 102, 45, 99, 97, 99, 104, 101, 100], [101, 116, 97, 103], [115, 111, 32, 109, 97, 110, 121, 32, 115, 101, 99, 111, 110, 100, 115, 32, 99, 97, 110, 32, 110, 111, 116, 32, 103, 111, 32, 98, 121], [116, 104, 101, 114, 101, 32, 105, 115, 32, 110, 111, 32, 115, 117, 99, 104, 32, 116, 104, 105, 110, 103], [97, 32, 116, 104, 105, 110, 103, 32, 104, 97, 115, 32, 110, 111, 116, 104, 105, 110, 103, 32, 115, 117, 99, 104], [116, 104, 101, 32, 116, 101, 120, 116, 32, 105, 115, 32, 119, 114, 111, 110, 103], [116, 104, 101, 114, 101, 32, 105, 115, 32, 110, 111, 32, 115, 117, 99, 104, 32, 112, 97, 116, 104], [118, 97, 114, 121], [101, 120, 112, 105, 114, 101, 115], [100, 97, 116, 101], [97, 103, 101], [42], [110, 111, 45, 115, 116, 111, 114, 101], [109, 97, 120, 45, 97, 103, 101], [110, 111, 45, 99, 97, 99, 104, 101], [109, 97, 120, 45, 115, 116, 97, 108, 101], [109, 105, 110, 45, 102, 114, 101, 115, 104], [115, 45, 109, 97, 120, 97, 103, 101], [112, 114, 105, 118, 97, 116, 101], [109, 117, 115, 116, 45, 114, 101, 118, 97, 108, 105, 100, 97, 116, 101], [112, 114, 111, 120, 121, 45, 114, 101, 118, 97, 108, 105, 100, 97, 116, 101]]
/-- class, place in its pool, text, number of the literal -/
def litL : List (String × Nat × String × Nat) := [("VaryStore", 78, "cache-control", 0), ("VaryStore", 100, "only-if-cached", 1), ("VaryStore", 143, "etag", 2), ("VaryStore", 165, "so many seconds can not go by", 3), ("VaryStore", 172, "there is no such thing", 4), ("VaryStore", 196, "a thing has nothing such", 5), ("VaryStore", 208, "the text is wrong", 6), ("VaryStore", 210, "there is no such path", 7), ("VaryStore", 233, "vary", 8), ("VaryStore", 237, "expires", 9), ("VaryStore", 243, "date", 10), ("VaryStore", 256, "age", 11), ("VaryStore", 266, "*", 12), ("VaryStore", 271, "no-store", 13), ("VaryStore", 283, "max-age", 14), ("VaryStore", 288, "no-cache", 15), ("VaryStore", 290, "max-stale", 16), ("VaryStore", 292, "min-fresh", 17), ("VaryStore$Thing", 64, "s-maxage", 18), ("VaryStore$Thing", 70, "max-age", 14), ("VaryStore$Thing", 72, "no-store", 13), ("VaryStore$Thing", 78, "private", 19), ("VaryStore$Thing", 80, "no-cache", 15), ("VaryStore$Thing", 82, "must-revalidate", 20), ("VaryStore$Thing", 84, "proxy-revalidate", 21)]
/-! ===== numbers: an int as the Int that it holds ===== -/
def iI (z : Int) : Int32 := Int32.ofInt z
theorem iI_add (a b : Int) : iI a + iI b = iI (a + b) := (Int32.ofInt_add a b).symm
theorem iI_sub (a b : Int) : iI a - iI b = iI (a - b) := (Int32.ofInt_sub a b).symm
theorem iI_mul (a b : Int) : iI a * iI b = iI (a * b) := (Int32.ofInt_mul a b).symm
theorem iI_neg (a : Int) : - iI a = iI (-a) := (Int32.ofInt_neg a).symm
theorem iI_of (x : Int32) : iI x.toInt = x := Int32.ofInt_toInt x
theorem iI_toInt {z : Int} (h1 : -2147483648 ≤ z) (h2 : z < 2147483648) : (iI z).toInt = z := Int32.toInt_ofInt_of_le (by omega) (by omega)
theorem iI_nI (n : Nat) : nI n = iI n := Int32.ofInt_eq_ofNat.symm
theorem iI_lt {a b : Int} (a1 : -2147483648 ≤ a) (a2 : a < 2147483648) (b1 : -2147483648 ≤ b) (b2 : b < 2147483648) : iI a < iI b ↔ a < b := by
  rw [Int32.lt_iff_toInt_lt, iI_toInt a1 a2, iI_toInt b1 b2]
theorem iI_le {a b : Int} (a1 : -2147483648 ≤ a) (a2 : a < 2147483648) (b1 : -2147483648 ≤ b) (b2 : b < 2147483648) : iI a ≤ iI b ↔ a ≤ b := by
  rw [Int32.le_iff_toInt_le, iI_toInt a1 a2, iI_toInt b1 b2]
theorem iI_eq {a b : Int} (a1 : -2147483648 ≤ a) (a2 : a < 2147483648) (b1 : -2147483648 ≤ b) (b2 : b < 2147483648) : iI a = iI b ↔ a = b := by
  rw [← Int32.toInt_inj, iI_toInt a1 a2, iI_toInt b1 b2]
theorem iI_clamp {z : Int} (h1 : 0 ≤ z) (h2 : z < 2147483648) : (iI z).toNatClampNeg = z.toNat := by
  show (iI z).toInt.toNat = _
  rw [iI_toInt (by omega) h2]
theorem iI_in {z : Int} {n : Nat} (h1 : 0 ≤ z) (h2 : z < n) (h3 : n < 2147483648) : vp_in (iI z) n := by
  rw [vp_in_iff, iI_toInt (by omega) (by omega)]
  exact ⟨h1, h2⟩
/-! ===== the heap as a map from addresses to pictures of cells ===== -/
abbrev HM : Type := Nat → Option va_E
def hu (M : HM) (a : Nat) (e : va_E) : HM := fun q => if q = a then some e else M q
theorem hu_same (M : HM) (a : Nat) (e : va_E) : hu M a e a = some e := by simp [hu]
theorem hu_ne {M : HM} {a b : Nat} {e : va_E} (h : b ≠ a) : hu M a e b = M b := by simp [hu, h]
def HH (D : va_G) (cl : List vw_C) (M : HM) (H : Heap) : Prop := ∀ (a : Nat) (e : va_E), M a = some e → va_at D cl (a, e) H
theorem HH.one {D : va_G} {cl : List vw_C} {M : HM} {H : Heap} (h : HH D cl M H) {a : Nat} {e : va_E} (ha : M a = some e) : va_P D cl [(a, e)] H := by
  intro k q hq
  match k, hq with
  | 0, hq => cases hq; exact h a e ha
  | k + 1, hq => simp at hq
theorem HH.put {D : va_G} {cl : List vw_C} {M : HM} {H H1 : Heap} {a : Nat} {e : va_E} (h : HH D cl M H) (h1 : va_at D cl (a, e) H1) (oq : ∀ q : Nat, q ≠ a → H1[q]? = H[q]?) : HH D cl (hu M a e) H1 := by
  intro b e' hb
  by_cases hba : b = a
  · subst hba
    rw [hu_same] at hb
    cases hb
    exact h1
  · rw [hu_ne hba] at hb
    exact (h b e' hb).kept (oq b hba)
theorem HH.new {D : va_G} {cl : List vw_C} {M : HM} {H H1 : Heap} {e : va_E} (h : HH D cl M H) (h1 : va_at D cl (H.size, e) H1) (oq : ∀ q : Nat, q < H.size → H1[q]? = H[q]?) : HH D cl (hu M H.size e) H1 := by
  intro b e' hb
  by_cases hba : b = H.size
  · subst hba
    rw [hu_same] at hb
    cases hb
    exact h1
  · rw [hu_ne hba] at hb
    have hl : b < H.size := (h b e' hb).lt
    exact (h b e' hb).kept (oq b hl)
/-! ===== locals, by their places ===== -/
def lvOf (vs : List (Option Value)) : List (Nat × Value) := vs.zipIdx.filterMap (fun q => q.1.map (fun v => (q.2, v)))
theorem lvOf_mem {vs : List (Option Value)} {i : Nat} {v : Value} : (i, v) ∈ lvOf vs ↔ vs[i]? = some (some v) := by
  unfold lvOf
  rw [List.mem_filterMap]
  constructor
  · rintro ⟨⟨o, j⟩, hm, hq⟩
    cases o with
    | none => simp at hq
    | some w =>
      simp only [Option.map_some, Option.some.injEq, Prod.mk.injEq] at hq
      obtain ⟨rfl, rfl⟩ := hq
      exact List.mem_zipIdx_iff_getElem?.mp hm
  · intro h
    exact ⟨(some v, i), List.mem_zipIdx_iff_getElem?.mpr h, rfl⟩
def LV (ls : Array Slot) (nL : Nat) (vs : List (Option Value)) : Prop := lv_has ls nL (lvOf vs)
theorem LV.at {ls : Array Slot} {nL : Nat} {vs : List (Option Value)} (h : LV ls nL vs) {i : Nat} {v : Value} (hi : vs[i]? = some (some v)) : ls[i]? = some (.val v) := h.2.2 (i, v) (lvOf_mem.mpr hi)
theorem LV.to {ls : Array Slot} {nL : Nat} {vs vs' : List (Option Value)} (h : LV ls nL vs) (hs : ∀ (i : Nat) (v : Value), vs'[i]? = some (some v) → vs[i]? = some (some v)) : LV ls nL vs' :=
  ⟨h.1, h.2.1, fun q hq => h.2.2 q (lvOf_mem.mpr (hs _ _ (lvOf_mem.mp hq)))⟩
/-- no long stands just ahead of the place -/
def lvFree (vs : List (Option Value)) (i : Nat) : Bool := match i with
  | 0 => true
  | j + 1 => match vs[j]? with
    | some (some (.long _)) => false
    | some (some (.double _)) => false
    | _ => true
theorem LV.st1 {ls : Array Slot} {nL : Nat} {vs : List (Option Value)} {i : Nat} {v : Value} (hf : lvFree vs i = true) (h : lv_has ls nL ((i, v) :: (lvOf vs).filter (fun q => !(q.1 == i) && !(q.1 + 1 == i && q.2.category == 2)))) : LV ls nL (vs.set i (some v)) := by
  refine ⟨h.1, h.2.1, fun q hq => h.2.2 q ?_⟩
  obtain ⟨j, w⟩ := q
  have hj := lvOf_mem.mp hq
  by_cases hji : j = i
  · subst hji
    rw [List.getElem?_set] at hj
    simp only [if_true] at hj
    split at hj
    · cases hj; exact List.mem_cons_self
    · cases hj
  · rw [List.getElem?_set_ne (fun e => hji e.symm)] at hj
    refine List.mem_cons_of_mem _ (List.mem_filter.mpr ⟨lvOf_mem.mpr hj, ?_⟩)
    have h1 : (j == i) = false := by simp [hji]
    simp only [h1, Bool.not_false, Bool.true_and]
    by_cases h2 : j + 1 = i
    · subst h2
      unfold lvFree at hf
      simp only [hj] at hf
      cases w <;> simp [Value.category] at hf ⊢
    · simp [h2]
end
section
/-! ===== a method's walk over the map of the heap ===== -/
/-- launch, numbers of classes and slots, classes of arrays, addresses of the literals and of their bytes -/
abbrev GE : Type := Launch × va_G × (Nat → ClassId) × (Nat → Nat) × (Nat → Nat)
/-- a method: its class, its bytes, its locals, its answer's type, its name, its room, its handlers -/
abbrev MS : Type := String × ByteArray × Nat × Option FieldType × String × Room × List (Nat × Nat × Nat × Nat)
/-- classes of arrays -/
def tyL (dA : Nat → ClassId) : List (ClassId × FieldType) := [(dA 0, .char), (dA 1, .int), (dA 2, .object "VaryStore$Thing"), (dA 3, .long), (dA 4, .object "VaryStoreModel$Thing"), (dA 5, .array .int)]
/-- words of the tables that ride by laws of their own -/
def isNB : Cond → Bool
  | .fieldLinkNest .. => true
  | .methodLinkNest .. => true
  | .castable .. => true
  | .declares _ => true
  | .arrayOver (.object _) => true
  | .arrayOver (.array _) => true
  | _ => false
def NB : List Cond := lw_tbl.filter isNB
theorem nb_in {w : Cond} (i : Nat) (h : lw_tbl[i]? = some w) (hg : isNB w = true) : w ∈ NB := List.mem_filter.mpr ⟨List.mem_of_getElem? h, hg⟩
theorem ao_moved {t : FieldType} {u U : State} (hvm : u.vm.Alike U.vm) (h : (Cond.arrayOver (.array t)).before #[] u = true) : (Cond.arrayOver (.array t)).before #[] U = true := by
  obtain ⟨comp, c, k, h1, h2, h3, h4, h5⟩ := arrayOverA_spec h
  obtain ⟨k', hk', he⟩ := hvm.2.2 _ _ h3
  have hi : (U.vm.classes.findIdx? fun (x : Class) => match x.kind with | .array component _ => component == comp | _ => false) = some c := by
    rw [hvm.findIdx?_eq _ (fun _ => rfl)]; exact h2
  have hkind : k'.kind = .array comp (.array t) := by rw [he]; exact h4
  have f1 : U.vm.findClass (FieldType.array t).toString = some comp := by rw [hvm.findClass]; exact h1
  have f2 : U.vm.findClass ("[" ++ (FieldType.array t).toString) = some c := by rw [hvm.findClass]; exact h5
  unfold Cond.before Cond.holds
  simp only [Cond.value]
  rw [f1, Option.bind_some]
  refine (congrArg (fun o : Option Nat => (o.bind (fun c => (U.vm.classes[c]?).map fun (k : Class) => match k.kind with | .array _ ty => decide (ty = FieldType.array t) && decide (U.vm.findClass ("[" ++ (FieldType.array t).toString) = some c) | _ => false) == some true)) hi).trans ?_
  simp [hk', hkind, f2]
theorem nb_warm {w : Cond} (h : isNB w = true) {s U : State} (hW : s.WarmedH U.vm) (hb : w.before #[] s = true) : w.before #[] U = true := by
  cases w with
  | fieldLinkNest => exact va_Nw.warmF hW hb
  | methodLinkNest => exact va_Nw.warmM hW hb
  | castable => exact va_Nw.warmC hW hb
  | declares => exact va_Nw.warmD hW hb
  | arrayOver t =>
    cases t with
    | object C => exact va_AO.moved hW.alike hb
    | array t => exact ao_moved hW.alike hb
    | _ => simp [isNB] at h
  | _ => simp [isNB] at h
theorem nb_args {w : Cond} (h : isNB w = true) {A B : Array Value} {u U : State} (hv : U.vm = u.vm) (hb : w.before A u = true) : w.before B U = true := by
  cases w with
  | fieldLinkNest => exact va_tabs rfl hv.symm hb
  | methodLinkNest => exact va_tabs rfl hv.symm hb
  | castable => exact va_tabs rfl hv.symm hb
  | declares => exact va_tabs rfl hv.symm hb
  | arrayOver t =>
    have ha : u.vm.Alike U.vm := by rw [hv]; exact Vm.Alike.refl _
    cases t with
    | object C => exact va_AO.use (va_AO.moved ha (va_AO.of hb))
    | array t => exact ao_moved ha hb
    | _ => simp [isNB] at h
  | _ => simp [isNB] at h
/-- what stands in the heap at the start and is never written: literals, statics; and the words that ride by laws of their own -/
def ZL (Γ : GE) (A : Nat → Prop) (U : State) (H : Heap) : Prop :=
  vk_S nLit lenLit bytLit Γ.2.2.2.1 Γ.2.2.2.2 A U H ∧ (∀ q ∈ litL, vk_R q.1 q.2.1 q.2.2.1 (Γ.2.2.2.1 q.2.2.2) U) ∧ va_Z "java/lang/String" "COMPACT_STRINGS" "Z" (.int 1) A U H ∧
  vx_Zq Bundle.tN "UNASSIGNED_STACK" Bundle.steD A U H ∧ vx_Zq Bundle.tN "SUPPRESSED_SENTINEL" Bundle.listD A U H ∧ (∀ w ∈ NB, w.before #[] U = true) ∧ va_Zq "jdk/internal/util/Preconditions" "SIOOBE_FORMATTER" "Ljava/util/function/BiFunction;" A U H
theorem ZL.to {Γ : GE} {A B : Nat → Prop} {u U : State} {H H1 : Heap} (hW : u.WarmedH U.vm) (h : ZL Γ A u H) (hq : ∀ a : Nat, a < H.size → ¬ A a → H1[a]? = H[a]?) (hAB : ∀ q, B q → A q) : ZL Γ B U H1 :=
  ⟨vk_S.narrow (vk_S.kept (vk_S.moved hW.alike h.1) hq) hAB, fun q hm => vk_R.warm hW (h.2.1 q hm), va_Z.narrow (va_Z.kept (va_Z.moved hW.alike h.2.2.1) hq) hAB,
    vx_Zq.narrow (vx_Zq.kept (vx_Zq.moved hW.alike h.2.2.2.1) hq) hAB, vx_Zq.narrow (vx_Zq.kept (vx_Zq.moved hW.alike h.2.2.2.2.1) hq) hAB, fun w hw => nb_warm (List.mem_filter.mp hw).2 hW (h.2.2.2.2.2.1 w hw), va_Zq.narrow (va_Zq.kept (va_Zq.moved hW.alike h.2.2.2.2.2.2) hq) hAB⟩
theorem ZL.same {Γ : GE} {A : Nat → Prop} {u U : State} {H : Heap} (hv : U.vm = u.vm) (h : ZL Γ A u H) : ZL Γ A U H := by
  have ha : u.vm.Alike U.vm := by rw [hv]; exact Vm.Alike.refl _
  exact ⟨vk_S.moved ha h.1, fun q hm => vk_R.same hv (h.2.1 q hm), va_Z.moved ha h.2.2.1, vx_Zq.moved ha h.2.2.2.1, vx_Zq.moved ha h.2.2.2.2.1, fun w hw => nb_args (List.mem_filter.mp hw).2 hv (h.2.2.2.2.2.1 w hw), va_Zq.moved ha h.2.2.2.2.2.2⟩
theorem ZL.nb {Γ : GE} {A : Nat → Prop} {s : State} {H : Heap} {w : Cond} {args : Array Value} (h : ZL Γ A s H) (hw : w ∈ NB) : w.before args s = true := nb_args (List.mem_filter.mp hw).2 rfl (h.2.2.2.2.2.1 w hw)
def Ct (Γ : GE) (μ : MS) (A : Nat → Prop) (p : Program) (e : Env) (s : State) (m : MethodId) (args : Array Value) (meth : Method) (c : Code) : Prop :=
  p.tables.exec = Jvm.exec ∧ c.code = μ.2.1 ∧ c.maxLocals = μ.2.2.1 ∧ s.vm.findClass μ.1 = some m.cls ∧ (∀ w ∈ TB, w.before args s = true) ∧ meth.sig.returnType = μ.2.2.2.1 ∧ meth.locks = false ∧ meth.name = μ.2.2.2.2.1 ∧ va_K Γ.2.1 cls (tyL Γ.2.2.1) s ∧ (∀ q, s.heap.size ≤ q → A q) ∧ ZL Γ A s s.heap ∧ Γ.1.stackTraces = false ∧ c.exceptionTable.toList = tableOf μ.2.2.2.2.2.2
def G (Γ : GE) (μ : MS) (A : Nat → Prop) (E : List Frame → Array Value → State → State → Prop) (ce sl : Nat) (M : HM) (n pc : Nat) (vs : List (Option Value)) (st : List Value) : Prop :=
  ∀ (p : Program) (e : Env) (s : State) (m : MethodId) (args : Array Value) (below : List Frame) (meth : Method) (c : Code) (H : Heap) (locs : List Loc) (ls : Array Slot),
    Ct Γ μ A p e s m args meth c → HH Γ.2.1 cls M H → H.size = n → (∀ q, M q ≠ none → A q) → va_S A s.heap H locs → LV ls μ.2.2.1 vs →
    W p Γ.1 e μ.2.2.2.2.2.1 s m args below meth c H locs ce sl (E below args s) (F0 m pc ls st)
/-- what a method may write: the map's cells, and new ones -/
def AA (M : HM) (n : Nat) : Nat → Prop := fun q => M q ≠ none ∨ n ≤ q
def PC (Γ : GE) (av : List Value) (M : HM) (n : Nat) : Array Value → State → Prop := va_Pc av (fun U => HH Γ.2.1 cls M U.heap ∧ U.heap.size = n ∧ va_K Γ.2.1 cls (tyL Γ.2.2.1) U ∧ ZL Γ (AA M n) U U.heap ∧ Γ.1.stackTraces = false)
def QC (Γ : GE) (A : Nat → Prop) (Q : Option Value → HM → Nat → Prop) : Array Value → State → Outcome → State → Prop := fun _ st o t =>
  (∃ (v : Option Value) (M : HM), o = .returned v ∧ HH Γ.2.1 cls M t.heap ∧ (∀ q, M q ≠ none → A q) ∧ Q v M t.heap.size) ∧ va_F A st t
def XQ (Γ : GE) (A : Nat → Prop) (X : String → HM → Nat → Prop) : String → State → State → Prop := fun C st t =>
  (∃ (M : HM), HH Γ.2.1 cls M t.heap ∧ (∀ q, M q ≠ none → A q) ∧ X C M t.heap.size) ∧ va_F A st t
def EM (Γ : GE) (μ : MS) (A : Nat → Prop) (Q : Option Value → HM → Nat → Prop) : List Frame → Array Value → State → State → Prop :=
  fun below args s => MQ below (QC Γ A Q) args s μ.2.2.2.2.2.1.cells μ.2.2.2.2.2.1.slots A
def EX (Γ : GE) (μ : MS) (A : Nat → Prop) (Q : Option Value → HM → Nat → Prop) (X : String → HM → Nat → Prop) : List Frame → Array Value → State → State → Prop :=
  fun below args s => vx_MQ below (QC Γ A Q) (XQ Γ A X) args s μ.2.2.2.2.2.1.cells μ.2.2.2.2.2.1.slots A
/-- a method's contract; and one that may throw -/
def CT (Γ : GE) (μ : MS) (y : MethodName) (av : List Value) (M : HM) (n : Nat) (Q : Option Value → HM → Nat → Prop) : Prop :=
  Met Γ.1 y (Cond.code y μ.2.1 μ.2.2.1 μ.2.2.2.1 :: TB) μ.2.2.2.2.2.1 (PC Γ av M n) (QC Γ (AA M n) Q) μ.2.2.2.2.2.1.cells μ.2.2.2.2.2.1.slots (AA M n)
def CX (Γ : GE) (μ : MS) (y : MethodName) (av : List Value) (M : HM) (n : Nat) (Q : Option Value → HM → Nat → Prop) (X : String → HM → Nat → Prop) : Prop :=
  vx_Met Γ.1 y (Cond.code y μ.2.1 μ.2.2.1 μ.2.2.2.1 :: TB) μ.2.2.2.2.2.1 (PC Γ av M n) (QC Γ (AA M n) Q) (XQ Γ (AA M n) X) μ.2.2.2.2.2.1.cells μ.2.2.2.2.2.1.slots (AA M n)
section GR
variable {Γ : GE} {μ : MS} {A : Nat → Prop} {E : List Frame → Array Value → State → State → Prop} {ce sl : Nat} {M : HM} {n pc : Nat} {vs : List (Option Value)} {st : List Value}

theorem g_iconst {z : Int} (hd : decode μ.2.1 pc = .ok (.iconst z, 1)) (k : G Γ μ A E ce sl M n (pc + 1) vs (.int (iI z) :: st)) : G Γ μ A E ce sl M n pc vs (st) := by
  intro p e s m args below meth c H locs ls C h1 h2 h3 h4 h5
  refine lv_iconst C.1 C.2.1 hd rfl ?_
  exact k p e s m args below meth c H locs ls C h1 h2 h3 h4 h5
theorem g_bipush {z : Int} (hd : decode μ.2.1 pc = .ok (.bipush z, 2)) (hz : (Int8.ofInt z).toInt32 = iI z) (k : G Γ μ A E ce sl M n (pc + 2) vs (.int (iI z) :: st)) : G Γ μ A E ce sl M n pc vs (st) := by
  intro p e s m args below meth c H locs ls C h1 h2 h3 h4 h5
  refine lv_bipush C.1 C.2.1 hd hz ?_
  exact k p e s m args below meth c H locs ls C h1 h2 h3 h4 h5
theorem g_sipush {z : Int} (hd : decode μ.2.1 pc = .ok (.sipush z, 3)) (hz : (Int16.ofInt z).toInt32 = iI z) (k : G Γ μ A E ce sl M n (pc + 3) vs (.int (iI z) :: st)) : G Γ μ A E ce sl M n pc vs (st) := by
  intro p e s m args below meth c H locs ls C h1 h2 h3 h4 h5
  refine lv_sipush C.1 C.2.1 hd hz ?_
  exact k p e s m args below meth c H locs ls C h1 h2 h3 h4 h5
theorem g_null  (hd : decode μ.2.1 pc = .ok (.aconst_null, 1)) (k : G Γ μ A E ce sl M n (pc + 1) vs (.null :: st)) : G Γ μ A E ce sl M n pc vs (st) := by
  intro p e s m args below meth c H locs ls C h1 h2 h3 h4 h5
  refine lv_null C.1 C.2.1 hd  ?_
  exact k p e s m args below meth c H locs ls C h1 h2 h3 h4 h5
theorem g_iload_n {i : Fin 4} {z : Int} (hd : decode μ.2.1 pc = .ok (.iload_n i, 1)) (hv : vs[(i : Nat)]? = some (some (.int (iI z)))) (k : G Γ μ A E ce sl M n (pc + 1) vs (.int (iI z) :: st)) : G Γ μ A E ce sl M n pc vs st := by
  intro p e s m args below meth c H locs ls C h1 h2 h3 h4 h5
  exact lv_iload_n C.1 C.2.1 hd rfl (h5.at hv) (k p e s m args below meth c H locs ls C h1 h2 h3 h4 h5)
theorem g_iload {i : Nat} {z : Int} (hd : decode μ.2.1 pc = .ok (.iload i, 2)) (hv : vs[i]? = some (some (.int (iI z)))) (k : G Γ μ A E ce sl M n (pc + 2) vs (.int (iI z) :: st)) : G Γ μ A E ce sl M n pc vs st := by
  intro p e s m args below meth c H locs ls C h1 h2 h3 h4 h5
  exact lv_iload C.1 C.2.1 hd (h5.at hv) (k p e s m args below meth c H locs ls C h1 h2 h3 h4 h5)
theorem g_aload_n {i : Fin 4} {z : Nat} (hd : decode μ.2.1 pc = .ok (.aload_n i, 1)) (hv : vs[(i : Nat)]? = some (some (.ref z))) (k : G Γ μ A E ce sl M n (pc + 1) vs (.ref z :: st)) : G Γ μ A E ce sl M n pc vs st := by
  intro p e s m args below meth c H locs ls C h1 h2 h3 h4 h5
  exact lv_aload_n C.1 C.2.1 hd rfl (h5.at hv) (k p e s m args below meth c H locs ls C h1 h2 h3 h4 h5)
theorem g_aload {i : Nat} {z : Nat} (hd : decode μ.2.1 pc = .ok (.aload i, 2)) (hv : vs[i]? = some (some (.ref z))) (k : G Γ μ A E ce sl M n (pc + 2) vs (.ref z :: st)) : G Γ μ A E ce sl M n pc vs st := by
  intro p e s m args below meth c H locs ls C h1 h2 h3 h4 h5
  exact lv_aload C.1 C.2.1 hd (h5.at hv) (k p e s m args below meth c H locs ls C h1 h2 h3 h4 h5)
theorem g_lload_n {i : Fin 4} {z : Int64} (hd : decode μ.2.1 pc = .ok (.lload_n i, 1)) (hv : vs[(i : Nat)]? = some (some (.long z))) (k : G Γ μ A E ce sl M n (pc + 1) vs (.long z :: st)) : G Γ μ A E ce sl M n pc vs st := by
  intro p e s m args below meth c H locs ls C h1 h2 h3 h4 h5
  exact lv_lload_n C.1 C.2.1 hd rfl (h5.at hv) (k p e s m args below meth c H locs ls C h1 h2 h3 h4 h5)
theorem g_lload {i : Nat} {z : Int64} (hd : decode μ.2.1 pc = .ok (.lload i, 2)) (hv : vs[i]? = some (some (.long z))) (k : G Γ μ A E ce sl M n (pc + 2) vs (.long z :: st)) : G Γ μ A E ce sl M n pc vs st := by
  intro p e s m args below meth c H locs ls C h1 h2 h3 h4 h5
  exact lv_lload C.1 C.2.1 hd (h5.at hv) (k p e s m args below meth c H locs ls C h1 h2 h3 h4 h5)
theorem g_aload_nN {i : Fin 4} (hd : decode μ.2.1 pc = .ok (.aload_n i, 1)) (hv : vs[(i : Nat)]? = some (some .null)) (k : G Γ μ A E ce sl M n (pc + 1) vs (.null :: st)) : G Γ μ A E ce sl M n pc vs st := by
  intro p e s m args below meth c H locs ls C h1 h2 h3 h4 h5
  exact lv_aload_nN C.1 C.2.1 hd rfl (h5.at hv) (k p e s m args below meth c H locs ls C h1 h2 h3 h4 h5)
theorem g_aloadN {i : Nat} (hd : decode μ.2.1 pc = .ok (.aload i, 2)) (hv : vs[i]? = some (some .null)) (k : G Γ μ A E ce sl M n (pc + 2) vs (.null :: st)) : G Γ μ A E ce sl M n pc vs st := by
  intro p e s m args below meth c H locs ls C h1 h2 h3 h4 h5
  exact lv_aloadN C.1 C.2.1 hd (h5.at hv) (k p e s m args below meth c H locs ls C h1 h2 h3 h4 h5)
theorem g_istore_n {i : Fin 4} {z : Int} (hd : decode μ.2.1 pc = .ok (.istore_n i, 1)) (hi : (i : Nat) < μ.2.2.1) (hf : lvFree vs i = true) (k : G Γ μ A E ce sl M n (pc + 1) (vs.set i (some (.int (iI z)))) st) : G Γ μ A E ce sl M n pc vs (.int (iI z) :: st) := by
  intro p e s m args below meth c H locs ls C h1 h2 h3 h4 h5
  exact lv_istore_n C.1 C.2.1 hd rfl h5 hi rfl (fun ls hl => k p e s m args below meth c H locs ls C h1 h2 h3 h4 (LV.st1 hf hl))
theorem g_istore {i : Nat} {z : Int} (hd : decode μ.2.1 pc = .ok (.istore i, 2)) (hi : i < μ.2.2.1) (hf : lvFree vs i = true) (k : G Γ μ A E ce sl M n (pc + 2) (vs.set i (some (.int (iI z)))) st) : G Γ μ A E ce sl M n pc vs (.int (iI z) :: st) := by
  intro p e s m args below meth c H locs ls C h1 h2 h3 h4 h5
  exact lv_istore C.1 C.2.1 hd h5 hi rfl (fun ls hl => k p e s m args below meth c H locs ls C h1 h2 h3 h4 (LV.st1 hf hl))
theorem g_astore_n {i : Fin 4} {z : Nat} (hd : decode μ.2.1 pc = .ok (.astore_n i, 1)) (hi : (i : Nat) < μ.2.2.1) (hf : lvFree vs i = true) (k : G Γ μ A E ce sl M n (pc + 1) (vs.set i (some (.ref z))) st) : G Γ μ A E ce sl M n pc vs (.ref z :: st) := by
  intro p e s m args below meth c H locs ls C h1 h2 h3 h4 h5
  exact lv_astore_n C.1 C.2.1 hd rfl h5 hi rfl (fun ls hl => k p e s m args below meth c H locs ls C h1 h2 h3 h4 (LV.st1 hf hl))
theorem g_astore {i : Nat} {z : Nat} (hd : decode μ.2.1 pc = .ok (.astore i, 2)) (hi : i < μ.2.2.1) (hf : lvFree vs i = true) (k : G Γ μ A E ce sl M n (pc + 2) (vs.set i (some (.ref z))) st) : G Γ μ A E ce sl M n pc vs (.ref z :: st) := by
  intro p e s m args below meth c H locs ls C h1 h2 h3 h4 h5
  exact lv_astore C.1 C.2.1 hd h5 hi rfl (fun ls hl => k p e s m args below meth c H locs ls C h1 h2 h3 h4 (LV.st1 hf hl))
theorem g_astore_nN {i : Fin 4}  (hd : decode μ.2.1 pc = .ok (.astore_n i, 1)) (hi : (i : Nat) < μ.2.2.1) (hf : lvFree vs i = true) (k : G Γ μ A E ce sl M n (pc + 1) (vs.set i (some (.null))) st) : G Γ μ A E ce sl M n pc vs (.null :: st) := by
  intro p e s m args below meth c H locs ls C h1 h2 h3 h4 h5
  exact lv_astore_nN C.1 C.2.1 hd rfl h5 hi rfl (fun ls hl => k p e s m args below meth c H locs ls C h1 h2 h3 h4 (LV.st1 hf hl))
theorem g_astoreN {i : Nat}  (hd : decode μ.2.1 pc = .ok (.astore i, 2)) (hi : i < μ.2.2.1) (hf : lvFree vs i = true) (k : G Γ μ A E ce sl M n (pc + 2) (vs.set i (some (.null))) st) : G Γ μ A E ce sl M n pc vs (.null :: st) := by
  intro p e s m args below meth c H locs ls C h1 h2 h3 h4 h5
  exact lv_astoreN C.1 C.2.1 hd h5 hi rfl (fun ls hl => k p e s m args below meth c H locs ls C h1 h2 h3 h4 (LV.st1 hf hl))
theorem g_iinc {i : Nat} {z d : Int} (hd : decode μ.2.1 pc = .ok (.iinc i d, 3)) (hv : vs[i]? = some (some (.int (iI z)))) (hi : i < μ.2.2.1) (hf : lvFree vs i = true) (k : G Γ μ A E ce sl M n (pc + 3) (vs.set i (some (.int (iI (z + d))))) st) : G Γ μ A E ce sl M n pc vs st := by
  intro p e s m args below meth c H locs ls C h1 h2 h3 h4 h5
  obtain ⟨j, hj⟩ := List.getElem?_of_mem (lvOf_mem.mpr hv)
  exact lv_iinc C.1 C.2.1 hd h5 hj (iI_add z d) hi rfl (fun ls hl => k p e s m args below meth c H locs ls C h1 h2 h3 h4 (LV.st1 hf hl))
theorem g_iadd {x y : Int} (hd : decode μ.2.1 pc = .ok (.iadd, 1)) (k : G Γ μ A E ce sl M n (pc + 1) vs (.int (iI (x + y)) :: st)) : G Γ μ A E ce sl M n pc vs (.int (iI y) :: .int (iI x) :: st) := by
  intro p e s m args below meth c H locs ls C h1 h2 h3 h4 h5
  refine lv_iadd C.1 C.2.1 hd  ?_
  rw [iI_add]
  exact k p e s m args below meth c H locs ls C h1 h2 h3 h4 h5
theorem g_isub {x y : Int} (hd : decode μ.2.1 pc = .ok (.isub, 1)) (k : G Γ μ A E ce sl M n (pc + 1) vs (.int (iI (x - y)) :: st)) : G Γ μ A E ce sl M n pc vs (.int (iI y) :: .int (iI x) :: st) := by
  intro p e s m args below meth c H locs ls C h1 h2 h3 h4 h5
  refine lv_isub C.1 C.2.1 hd  ?_
  rw [iI_sub]
  exact k p e s m args below meth c H locs ls C h1 h2 h3 h4 h5
theorem g_imul {x y : Int} (hd : decode μ.2.1 pc = .ok (.imul, 1)) (k : G Γ μ A E ce sl M n (pc + 1) vs (.int (iI (x * y)) :: st)) : G Γ μ A E ce sl M n pc vs (.int (iI y) :: .int (iI x) :: st) := by
  intro p e s m args below meth c H locs ls C h1 h2 h3 h4 h5
  refine lv_imul C.1 C.2.1 hd  ?_
  rw [iI_mul]
  exact k p e s m args below meth c H locs ls C h1 h2 h3 h4 h5
theorem g_ineg {x : Int} (hd : decode μ.2.1 pc = .ok (.ineg, 1)) (k : G Γ μ A E ce sl M n (pc + 1) vs (.int (iI (-x)) :: st)) : G Γ μ A E ce sl M n pc vs (.int (iI x) :: st) := by
  intro p e s m args below meth c H locs ls C h1 h2 h3 h4 h5
  refine lv_ineg C.1 C.2.1 hd  ?_
  rw [iI_neg]
  exact k p e s m args below meth c H locs ls C h1 h2 h3 h4 h5
theorem g_iand {x y : Int32} {z : Int} (hd : decode μ.2.1 pc = .ok (.iand, 1)) (hz : x &&& y = iI z) (k : G Γ μ A E ce sl M n (pc + 1) vs (.int (iI z) :: st)) : G Γ μ A E ce sl M n pc vs (.int y :: .int x :: st) := by
  intro p e s m args below meth c H locs ls C h1 h2 h3 h4 h5
  refine lv_iand C.1 C.2.1 hd ?_
  rw [hz]
  exact k p e s m args below meth c H locs ls C h1 h2 h3 h4 h5
theorem g_ior {x y : Int32} {z : Int} (hd : decode μ.2.1 pc = .ok (.ior, 1)) (hz : x ||| y = iI z) (k : G Γ μ A E ce sl M n (pc + 1) vs (.int (iI z) :: st)) : G Γ μ A E ce sl M n pc vs (.int y :: .int x :: st) := by
  intro p e s m args below meth c H locs ls C h1 h2 h3 h4 h5
  refine lv_ior C.1 C.2.1 hd ?_
  rw [hz]
  exact k p e s m args below meth c H locs ls C h1 h2 h3 h4 h5
theorem g_ixor {x y : Int32} {z : Int} (hd : decode μ.2.1 pc = .ok (.ixor, 1)) (hz : x ^^^ y = iI z) (k : G Γ μ A E ce sl M n (pc + 1) vs (.int (iI z) :: st)) : G Γ μ A E ce sl M n pc vs (.int y :: .int x :: st) := by
  intro p e s m args below meth c H locs ls C h1 h2 h3 h4 h5
  refine lv_ixor C.1 C.2.1 hd ?_
  rw [hz]
  exact k p e s m args below meth c H locs ls C h1 h2 h3 h4 h5
theorem g_ishl {x y : Int32} {z : Int} (hd : decode μ.2.1 pc = .ok (.ishl, 1)) (hz : x <<< (y &&& 31) = iI z) (k : G Γ μ A E ce sl M n (pc + 1) vs (.int (iI z) :: st)) : G Γ μ A E ce sl M n pc vs (.int y :: .int x :: st) := by
  intro p e s m args below meth c H locs ls C h1 h2 h3 h4 h5
  refine lv_ishl C.1 C.2.1 hd ?_
  rw [hz]
  exact k p e s m args below meth c H locs ls C h1 h2 h3 h4 h5
theorem g_ishr {x y : Int32} {z : Int} (hd : decode μ.2.1 pc = .ok (.ishr, 1)) (hz : x >>> (y &&& 31) = iI z) (k : G Γ μ A E ce sl M n (pc + 1) vs (.int (iI z) :: st)) : G Γ μ A E ce sl M n pc vs (.int y :: .int x :: st) := by
  intro p e s m args below meth c H locs ls C h1 h2 h3 h4 h5
  refine lv_ishr C.1 C.2.1 hd ?_
  rw [hz]
  exact k p e s m args below meth c H locs ls C h1 h2 h3 h4 h5
theorem g_i2c {x : Int32} {z : Int} (hd : decode μ.2.1 pc = .ok (.i2c, 1)) (hz : (x.toUInt32 % 65536).toInt32 = iI z) (k : G Γ μ A E ce sl M n (pc + 1) vs (.int (iI z) :: st)) : G Γ μ A E ce sl M n pc vs (.int x :: st) := by
  intro p e s m args below meth c H locs ls C h1 h2 h3 h4 h5
  exact lv_i2c C.1 C.2.1 hd hz (k p e s m args below meth c H locs ls C h1 h2 h3 h4 h5)
theorem g_i2b {x : Int32} {z : Int} (hd : decode μ.2.1 pc = .ok (.i2b, 1)) (hz : x.toInt8.toInt32 = iI z) (k : G Γ μ A E ce sl M n (pc + 1) vs (.int (iI z) :: st)) : G Γ μ A E ce sl M n pc vs (.int x :: st) := by
  intro p e s m args below meth c H locs ls C h1 h2 h3 h4 h5
  exact lv_i2b C.1 C.2.1 hd hz (k p e s m args below meth c H locs ls C h1 h2 h3 h4 h5)
theorem g_l2i {x : Int64} {z : Int} (hd : decode μ.2.1 pc = .ok (.l2i, 1)) (hz : x.toInt32 = iI z) (k : G Γ μ A E ce sl M n (pc + 1) vs (.int (iI z) :: st)) : G Γ μ A E ce sl M n pc vs (.long x :: st) := by
  intro p e s m args below meth c H locs ls C h1 h2 h3 h4 h5
  exact lv_l2i C.1 C.2.1 hd hz (k p e s m args below meth c H locs ls C h1 h2 h3 h4 h5)
theorem g_i2l {x : Int32} {z : Int64} (hd : decode μ.2.1 pc = .ok (.i2l, 1)) (hz : x.toInt64 = z) (k : G Γ μ A E ce sl M n (pc + 1) vs (.long z :: st)) : G Γ μ A E ce sl M n pc vs (.int x :: st) := by
  intro p e s m args below meth c H locs ls C h1 h2 h3 h4 h5
  exact lv_i2l C.1 C.2.1 hd hz (k p e s m args below meth c H locs ls C h1 h2 h3 h4 h5)
theorem g_lushr {x v : Int64} {y : Int32} (hd : decode μ.2.1 pc = .ok (.lushr, 1)) (hv : (x.toUInt64 >>> (y.toInt64.toUInt64 &&& Int64.toUInt64 63)).toInt64 = v) (k : G Γ μ A E ce sl M n (pc + 1) vs (.long v :: st)) : G Γ μ A E ce sl M n pc vs (.int y :: .long x :: st) := by
  intro p e s m args below meth c H locs ls C h1 h2 h3 h4 h5
  exact lv_lushr C.1 C.2.1 hd hv (k p e s m args below meth c H locs ls C h1 h2 h3 h4 h5)
theorem g_lshl {x v : Int64} {y : Int32} (hd : decode μ.2.1 pc = .ok (.lshl, 1)) (hv : x <<< (y.toInt64 &&& 63) = v) (k : G Γ μ A E ce sl M n (pc + 1) vs (.long v :: st)) : G Γ μ A E ce sl M n pc vs (.int y :: .long x :: st) := by
  intro p e s m args below meth c H locs ls C h1 h2 h3 h4 h5
  exact lv_lshl C.1 C.2.1 hd hv (k p e s m args below meth c H locs ls C h1 h2 h3 h4 h5)
theorem g_lor {x y : Int64} (hd : decode μ.2.1 pc = .ok (.lor, 1)) (k : G Γ μ A E ce sl M n (pc + 1) vs (.long (x ||| y) :: st)) : G Γ μ A E ce sl M n pc vs (.long y :: .long x :: st) := by
  intro p e s m args below meth c H locs ls C h1 h2 h3 h4 h5
  exact lv_lor C.1 C.2.1 hd (k p e s m args below meth c H locs ls C h1 h2 h3 h4 h5)
theorem g_land {x y : Int64} (hd : decode μ.2.1 pc = .ok (.land, 1)) (k : G Γ μ A E ce sl M n (pc + 1) vs (.long (x &&& y) :: st)) : G Γ μ A E ce sl M n pc vs (.long y :: .long x :: st) := by
  intro p e s m args below meth c H locs ls C h1 h2 h3 h4 h5
  exact lv_land C.1 C.2.1 hd (k p e s m args below meth c H locs ls C h1 h2 h3 h4 h5)
theorem g_dup {v : Value} (hd : decode μ.2.1 pc = .ok (.dup, 1)) (hv : v.category = 1) (k : G Γ μ A E ce sl M n (pc + 1) vs (v :: v :: st)) : G Γ μ A E ce sl M n pc vs (v :: st) := by
  intro p e s m args below meth c H locs ls C h1 h2 h3 h4 h5
  refine lv_dup C.1 C.2.1 hd hv ?_
  exact k p e s m args below meth c H locs ls C h1 h2 h3 h4 h5
theorem g_pop {v : Value} (hd : decode μ.2.1 pc = .ok (.pop, 1)) (hv : v.category = 1) (k : G Γ μ A E ce sl M n (pc + 1) vs (st)) : G Γ μ A E ce sl M n pc vs (v :: st) := by
  intro p e s m args below meth c H locs ls C h1 h2 h3 h4 h5
  refine lv_pop C.1 C.2.1 hd hv ?_
  exact k p e s m args below meth c H locs ls C h1 h2 h3 h4 h5
theorem g_dup_x1 {v w : Value} (hd : decode μ.2.1 pc = .ok (.dup_x1, 1)) (hv : v.category = 1) (hw : w.category = 1) (k : G Γ μ A E ce sl M n (pc + 1) vs (v :: w :: v :: st)) : G Γ μ A E ce sl M n pc vs (v :: w :: st) := by
  intro p e s m args below meth c H locs ls C h1 h2 h3 h4 h5
  refine lv_dup_x1 C.1 C.2.1 hd hv hw ?_
  exact k p e s m args below meth c H locs ls C h1 h2 h3 h4 h5
theorem g_dup2 {v w : Value} (hd : decode μ.2.1 pc = .ok (.dup2, 1)) (hv : v.category = 1) (hw : w.category = 1) (k : G Γ μ A E ce sl M n (pc + 1) vs (v :: w :: v :: w :: st)) : G Γ μ A E ce sl M n pc vs (v :: w :: st) := by
  intro p e s m args below meth c H locs ls C h1 h2 h3 h4 h5
  refine lv_dup2_11 C.1 C.2.1 hd hv hw ?_
  exact k p e s m args below meth c H locs ls C h1 h2 h3 h4 h5
theorem g_icmp_eq {x y : Int} {off : Int} {tgt : Nat} (hd : decode μ.2.1 pc = .ok (.if_icmp .eq off, 3)) (ht : (pc : Int) + off = (tgt : Int)) (kt : x = y → G Γ μ A E ce sl M n tgt vs st) (kf : ¬ x = y → G Γ μ A E ce sl M n (pc + 3) vs st) (x1 : -2147483648 ≤ x := by omega) (x2 : x < 2147483648 := by omega) (y1 : -2147483648 ≤ y := by omega) (y2 : y < 2147483648 := by omega) : G Γ μ A E ce sl M n pc vs (.int (iI y) :: .int (iI x) :: st) := by
  intro p e s m args below meth c H locs ls C h1 h2 h3 h4 h5
  exact lv_icmp_eq C.1 C.2.1 hd ht (fun q => kt ((iI_eq x1 x2 y1 y2).mp q) p e s m args below meth c H locs ls C h1 h2 h3 h4 h5) (fun q => kf (fun z => q ((iI_eq x1 x2 y1 y2).mpr z)) p e s m args below meth c H locs ls C h1 h2 h3 h4 h5)
theorem g_icmp_ne {x y : Int} {off : Int} {tgt : Nat} (hd : decode μ.2.1 pc = .ok (.if_icmp .ne off, 3)) (ht : (pc : Int) + off = (tgt : Int)) (kt : ¬ x = y → G Γ μ A E ce sl M n tgt vs st) (kf : x = y → G Γ μ A E ce sl M n (pc + 3) vs st) (x1 : -2147483648 ≤ x := by omega) (x2 : x < 2147483648 := by omega) (y1 : -2147483648 ≤ y := by omega) (y2 : y < 2147483648 := by omega) : G Γ μ A E ce sl M n pc vs (.int (iI y) :: .int (iI x) :: st) := by
  intro p e s m args below meth c H locs ls C h1 h2 h3 h4 h5
  exact lv_icmp_ne C.1 C.2.1 hd ht (fun q => kt (fun z => q ((iI_eq x1 x2 y1 y2).mpr z)) p e s m args below meth c H locs ls C h1 h2 h3 h4 h5) (fun q => kf ((iI_eq x1 x2 y1 y2).mp q) p e s m args below meth c H locs ls C h1 h2 h3 h4 h5)
theorem g_icmp_lt {x y : Int} {off : Int} {tgt : Nat} (hd : decode μ.2.1 pc = .ok (.if_icmp .lt off, 3)) (ht : (pc : Int) + off = (tgt : Int)) (kt : x < y → G Γ μ A E ce sl M n tgt vs st) (kf : ¬ x < y → G Γ μ A E ce sl M n (pc + 3) vs st) (x1 : -2147483648 ≤ x := by omega) (x2 : x < 2147483648 := by omega) (y1 : -2147483648 ≤ y := by omega) (y2 : y < 2147483648 := by omega) : G Γ μ A E ce sl M n pc vs (.int (iI y) :: .int (iI x) :: st) := by
  intro p e s m args below meth c H locs ls C h1 h2 h3 h4 h5
  exact lv_icmp_lt C.1 C.2.1 hd ht (fun q => kt ((iI_lt x1 x2 y1 y2).mp q) p e s m args below meth c H locs ls C h1 h2 h3 h4 h5) (fun q => kf (fun z => q ((iI_lt x1 x2 y1 y2).mpr z)) p e s m args below meth c H locs ls C h1 h2 h3 h4 h5)
theorem g_icmp_ge {x y : Int} {off : Int} {tgt : Nat} (hd : decode μ.2.1 pc = .ok (.if_icmp .ge off, 3)) (ht : (pc : Int) + off = (tgt : Int)) (kt : y ≤ x → G Γ μ A E ce sl M n tgt vs st) (kf : ¬ y ≤ x → G Γ μ A E ce sl M n (pc + 3) vs st) (x1 : -2147483648 ≤ x := by omega) (x2 : x < 2147483648 := by omega) (y1 : -2147483648 ≤ y := by omega) (y2 : y < 2147483648 := by omega) : G Γ μ A E ce sl M n pc vs (.int (iI y) :: .int (iI x) :: st) := by
  intro p e s m args below meth c H locs ls C h1 h2 h3 h4 h5
  exact lv_icmp_ge C.1 C.2.1 hd ht (fun q => kt ((iI_le y1 y2 x1 x2).mp q) p e s m args below meth c H locs ls C h1 h2 h3 h4 h5) (fun q => kf (fun z => q ((iI_le y1 y2 x1 x2).mpr z)) p e s m args below meth c H locs ls C h1 h2 h3 h4 h5)
theorem g_icmp_gt {x y : Int} {off : Int} {tgt : Nat} (hd : decode μ.2.1 pc = .ok (.if_icmp .gt off, 3)) (ht : (pc : Int) + off = (tgt : Int)) (kt : y < x → G Γ μ A E ce sl M n tgt vs st) (kf : ¬ y < x → G Γ μ A E ce sl M n (pc + 3) vs st) (x1 : -2147483648 ≤ x := by omega) (x2 : x < 2147483648 := by omega) (y1 : -2147483648 ≤ y := by omega) (y2 : y < 2147483648 := by omega) : G Γ μ A E ce sl M n pc vs (.int (iI y) :: .int (iI x) :: st) := by
  intro p e s m args below meth c H locs ls C h1 h2 h3 h4 h5
  exact lv_icmp_gt C.1 C.2.1 hd ht (fun q => kt ((iI_lt y1 y2 x1 x2).mp q) p e s m args below meth c H locs ls C h1 h2 h3 h4 h5) (fun q => kf (fun z => q ((iI_lt y1 y2 x1 x2).mpr z)) p e s m args below meth c H locs ls C h1 h2 h3 h4 h5)
theorem g_icmp_le {x y : Int} {off : Int} {tgt : Nat} (hd : decode μ.2.1 pc = .ok (.if_icmp .le off, 3)) (ht : (pc : Int) + off = (tgt : Int)) (kt : x ≤ y → G Γ μ A E ce sl M n tgt vs st) (kf : ¬ x ≤ y → G Γ μ A E ce sl M n (pc + 3) vs st) (x1 : -2147483648 ≤ x := by omega) (x2 : x < 2147483648 := by omega) (y1 : -2147483648 ≤ y := by omega) (y2 : y < 2147483648 := by omega) : G Γ μ A E ce sl M n pc vs (.int (iI y) :: .int (iI x) :: st) := by
  intro p e s m args below meth c H locs ls C h1 h2 h3 h4 h5
  exact lv_icmp_le C.1 C.2.1 hd ht (fun q => kt ((iI_le x1 x2 y1 y2).mp q) p e s m args below meth c H locs ls C h1 h2 h3 h4 h5) (fun q => kf (fun z => q ((iI_le x1 x2 y1 y2).mpr z)) p e s m args below meth c H locs ls C h1 h2 h3 h4 h5)
theorem g_if_eq {x : Int} {off : Int} {tgt : Nat} (hd : decode μ.2.1 pc = .ok (.ifCond .eq off, 3)) (ht : (pc : Int) + off = (tgt : Int)) (kt : x = 0 → G Γ μ A E ce sl M n tgt vs st) (kf : ¬ x = 0 → G Γ μ A E ce sl M n (pc + 3) vs st) (x1 : -2147483648 ≤ x := by omega) (x2 : x < 2147483648 := by omega) : G Γ μ A E ce sl M n pc vs (.int (iI x) :: st) := by
  intro p e s m args below meth c H locs ls C h1 h2 h3 h4 h5
  have z1 : (-2147483648 : Int) ≤ 0 := by omega
  have z2 : (0 : Int) < 2147483648 := by omega
  exact lv_if_eq C.1 C.2.1 hd ht (fun q => kt ((iI_eq x1 x2 z1 z2).mp q) p e s m args below meth c H locs ls C h1 h2 h3 h4 h5) (fun q => kf (fun z => q ((iI_eq x1 x2 z1 z2).mpr z)) p e s m args below meth c H locs ls C h1 h2 h3 h4 h5)
theorem g_if_ne {x : Int} {off : Int} {tgt : Nat} (hd : decode μ.2.1 pc = .ok (.ifCond .ne off, 3)) (ht : (pc : Int) + off = (tgt : Int)) (kt : ¬ x = 0 → G Γ μ A E ce sl M n tgt vs st) (kf : x = 0 → G Γ μ A E ce sl M n (pc + 3) vs st) (x1 : -2147483648 ≤ x := by omega) (x2 : x < 2147483648 := by omega) : G Γ μ A E ce sl M n pc vs (.int (iI x) :: st) := by
  intro p e s m args below meth c H locs ls C h1 h2 h3 h4 h5
  have z1 : (-2147483648 : Int) ≤ 0 := by omega
  have z2 : (0 : Int) < 2147483648 := by omega
  exact lv_if_ne C.1 C.2.1 hd ht (fun q => kt (fun z => q ((iI_eq x1 x2 z1 z2).mpr z)) p e s m args below meth c H locs ls C h1 h2 h3 h4 h5) (fun q => kf ((iI_eq x1 x2 z1 z2).mp q) p e s m args below meth c H locs ls C h1 h2 h3 h4 h5)
theorem g_if_lt {x : Int} {off : Int} {tgt : Nat} (hd : decode μ.2.1 pc = .ok (.ifCond .lt off, 3)) (ht : (pc : Int) + off = (tgt : Int)) (kt : x < 0 → G Γ μ A E ce sl M n tgt vs st) (kf : ¬ x < 0 → G Γ μ A E ce sl M n (pc + 3) vs st) (x1 : -2147483648 ≤ x := by omega) (x2 : x < 2147483648 := by omega) : G Γ μ A E ce sl M n pc vs (.int (iI x) :: st) := by
  intro p e s m args below meth c H locs ls C h1 h2 h3 h4 h5
  have z1 : (-2147483648 : Int) ≤ 0 := by omega
  have z2 : (0 : Int) < 2147483648 := by omega
  exact lv_if_lt C.1 C.2.1 hd ht (fun q => kt ((iI_lt x1 x2 z1 z2).mp q) p e s m args below meth c H locs ls C h1 h2 h3 h4 h5) (fun q => kf (fun z => q ((iI_lt x1 x2 z1 z2).mpr z)) p e s m args below meth c H locs ls C h1 h2 h3 h4 h5)
theorem g_if_ge {x : Int} {off : Int} {tgt : Nat} (hd : decode μ.2.1 pc = .ok (.ifCond .ge off, 3)) (ht : (pc : Int) + off = (tgt : Int)) (kt : 0 ≤ x → G Γ μ A E ce sl M n tgt vs st) (kf : ¬ 0 ≤ x → G Γ μ A E ce sl M n (pc + 3) vs st) (x1 : -2147483648 ≤ x := by omega) (x2 : x < 2147483648 := by omega) : G Γ μ A E ce sl M n pc vs (.int (iI x) :: st) := by
  intro p e s m args below meth c H locs ls C h1 h2 h3 h4 h5
  have z1 : (-2147483648 : Int) ≤ 0 := by omega
  have z2 : (0 : Int) < 2147483648 := by omega
  exact lv_if_ge C.1 C.2.1 hd ht (fun q => kt ((iI_le z1 z2 x1 x2).mp q) p e s m args below meth c H locs ls C h1 h2 h3 h4 h5) (fun q => kf (fun z => q ((iI_le z1 z2 x1 x2).mpr z)) p e s m args below meth c H locs ls C h1 h2 h3 h4 h5)
theorem g_if_gt {x : Int} {off : Int} {tgt : Nat} (hd : decode μ.2.1 pc = .ok (.ifCond .gt off, 3)) (ht : (pc : Int) + off = (tgt : Int)) (kt : 0 < x → G Γ μ A E ce sl M n tgt vs st) (kf : ¬ 0 < x → G Γ μ A E ce sl M n (pc + 3) vs st) (x1 : -2147483648 ≤ x := by omega) (x2 : x < 2147483648 := by omega) : G Γ μ A E ce sl M n pc vs (.int (iI x) :: st) := by
  intro p e s m args below meth c H locs ls C h1 h2 h3 h4 h5
  have z1 : (-2147483648 : Int) ≤ 0 := by omega
  have z2 : (0 : Int) < 2147483648 := by omega
  exact lv_if_gt C.1 C.2.1 hd ht (fun q => kt ((iI_lt z1 z2 x1 x2).mp q) p e s m args below meth c H locs ls C h1 h2 h3 h4 h5) (fun q => kf (fun z => q ((iI_lt z1 z2 x1 x2).mpr z)) p e s m args below meth c H locs ls C h1 h2 h3 h4 h5)
theorem g_if_le {x : Int} {off : Int} {tgt : Nat} (hd : decode μ.2.1 pc = .ok (.ifCond .le off, 3)) (ht : (pc : Int) + off = (tgt : Int)) (kt : x ≤ 0 → G Γ μ A E ce sl M n tgt vs st) (kf : ¬ x ≤ 0 → G Γ μ A E ce sl M n (pc + 3) vs st) (x1 : -2147483648 ≤ x := by omega) (x2 : x < 2147483648 := by omega) : G Γ μ A E ce sl M n pc vs (.int (iI x) :: st) := by
  intro p e s m args below meth c H locs ls C h1 h2 h3 h4 h5
  have z1 : (-2147483648 : Int) ≤ 0 := by omega
  have z2 : (0 : Int) < 2147483648 := by omega
  exact lv_if_le C.1 C.2.1 hd ht (fun q => kt ((iI_le x1 x2 z1 z2).mp q) p e s m args below meth c H locs ls C h1 h2 h3 h4 h5) (fun q => kf (fun z => q ((iI_le x1 x2 z1 z2).mpr z)) p e s m args below meth c H locs ls C h1 h2 h3 h4 h5)
theorem g_goto {off : Int} {tgt : Nat} (hd : decode μ.2.1 pc = .ok (.goto off, 3)) (ht : (pc : Int) + off = (tgt : Int)) (k : G Γ μ A E ce sl M n tgt vs st) : G Γ μ A E ce sl M n pc vs st := by
  intro p e s m args below meth c H locs ls C h1 h2 h3 h4 h5
  exact lv_goto C.1 C.2.1 hd ht (k p e s m args below meth c H locs ls C h1 h2 h3 h4 h5)
theorem g_ifnull {a : Nat} {off : Int} (hd : decode μ.2.1 pc = .ok (.ifnull off, 3)) (k : G Γ μ A E ce sl M n (pc + 3) vs st) : G Γ μ A E ce sl M n pc vs (.ref a :: st) := by
  intro p e s m args below meth c H locs ls C h1 h2 h3 h4 h5
  exact lv_ifnull C.1 C.2.1 hd (k p e s m args below meth c H locs ls C h1 h2 h3 h4 h5)
theorem g_ifnullN {off : Int} {tgt : Nat} (hd : decode μ.2.1 pc = .ok (.ifnull off, 3)) (ht : (pc : Int) + off = (tgt : Int)) (k : G Γ μ A E ce sl M n tgt vs st) : G Γ μ A E ce sl M n pc vs (.null :: st) := by
  intro p e s m args below meth c H locs ls C h1 h2 h3 h4 h5
  exact lv_ifnullN C.1 C.2.1 hd ht (k p e s m args below meth c H locs ls C h1 h2 h3 h4 h5)
theorem g_ifnonnull {a : Nat} {off : Int} {tgt : Nat} (hd : decode μ.2.1 pc = .ok (.ifnonnull off, 3)) (ht : (pc : Int) + off = (tgt : Int)) (k : G Γ μ A E ce sl M n tgt vs st) : G Γ μ A E ce sl M n pc vs (.ref a :: st) := by
  intro p e s m args below meth c H locs ls C h1 h2 h3 h4 h5
  exact lv_ifnonnull C.1 C.2.1 hd ht (k p e s m args below meth c H locs ls C h1 h2 h3 h4 h5)
theorem g_ifnonnullN {off : Int} (hd : decode μ.2.1 pc = .ok (.ifnonnull off, 3)) (k : G Γ μ A E ce sl M n (pc + 3) vs st) : G Γ μ A E ce sl M n pc vs (.null :: st) := by
  intro p e s m args below meth c H locs ls C h1 h2 h3 h4 h5
  exact lv_ifnonnullN C.1 C.2.1 hd (k p e s m args below meth c H locs ls C h1 h2 h3 h4 h5)
theorem g_lv {vs' : List (Option Value)} (k : G Γ μ A E ce sl M n pc vs' st) (hs : ∀ (i : Nat) (v : Value), vs'[i]? = some (some v) → vs[i]? = some (some v)) : G Γ μ A E ce sl M n pc vs st := by
  intro p e s m args below meth c H locs ls C h1 h2 h3 h4 h5
  exact k p e s m args below meth c H locs ls C h1 h2 h3 h4 (h5.to hs)
theorem g_widen {ce' sl' : Nat} (hc : ce ≤ ce') (hs : sl ≤ sl') (k : G Γ μ A E ce' sl' M n pc vs st) : G Γ μ A E ce sl M n pc vs st := by
  intro p e s m args below meth c H locs ls C h1 h2 h3 h4 h5
  exact W.widen hc hs (k p e s m args below meth c H locs ls C h1 h2 h3 h4 h5)
end GR
end
section
/-! ===== the heap's instructions ===== -/
theorem hu_dom {M : HM} {a : Nat} {e : va_E} {A : Nat → Prop} (h : ∀ q, M q ≠ none → A q) (ha : A a) : ∀ q, hu M a e q ≠ none → A q := by
  intro q hq
  by_cases hqa : q = a
  · subst hqa; exact ha
  · rw [hu_ne hqa] at hq; exact h q hq
theorem tb_in {w : Cond} (i : Nat) (h : lw_tbl[i]? = some w) (hg : goodWord w = true) : w ∈ TB := List.mem_filter.mpr ⟨List.mem_of_getElem? h, hg⟩
/-- a field's place: pool index of the class that reads it, number of the object's class, number of the field -/
def FA (own : String) (index ci k : Nat) (C : String) (T : u_T) (N : Nat) (ty : Nat → FieldType) : Prop :=
  cls[ci]? = some (C, T, N) ∧ (∀ w ∈ u_ws C T N, w ∈ TB) ∧ k < N ∧ (∀ j, j < N → parseFieldDescriptor (T j).2.2.1 = some (ty j)) ∧ (∀ a, a < N → ∀ b, b < N → a ≠ b → (T a).2.1 ≠ (T b).2.1) ∧
  (Cond.fieldLink own index (T k).1 (T k).2.1 (T k).2.2.1 ∈ TB ∨ ∃ host, Cond.fieldLinkNest own index (T k).1 (T k).2.1 (T k).2.2.1 host ∈ NB)
section HR
variable {Γ : GE} {μ : MS} {A : Nat → Prop} {E : List Frame → Array Value → State → State → Prop} {ce sl : Nat} {M : HM} {n pc : Nat} {vs : List (Option Value)} {st : List Value}
theorem g_get {a index ci k N : Nat} {C : String} {T : u_T} {ty : Nat → FieldType} {fs : List Value} {v : Value} (hF : FA μ.1 index ci k C T N ty) (hd : decode μ.2.1 pc = .ok (.getfield index, 3)) (hM : M a = some (.inr (ci, fs))) (hv : fs[k]? = some v) (kk : G Γ μ A E ce sl M n (pc + 3) vs (v :: st)) : G Γ μ A E ce sl M n pc vs (.ref a :: st) := by
  intro p e s m args below meth c H locs ls CC h1 h2 h3 h4 h5
  obtain ⟨c1, c2, c3, c4, c5, c6, c7, c8, c9, c10, c11, c12, c13⟩ := id CC
  obtain ⟨hc, hin, hk, hty, hnm, hl⟩ := hF
  have K := kk p e s m args below meth c H locs ls CC h1 h2 h3 h4 h5
  rcases hl with h | ⟨host, h⟩
  · exact va_get c1 c2 c5 hin c4 c9 (h1.one hM) 0 rfl hc k hk (c5 _ h) (fun _ h9 => h9) hv hd K
  · exact va_getN c1 c2 c5 hin c4 c9 (h1.one hM) 0 rfl hc k hk (c11.nb h) (fun _ h9 => h9) hv hd K
theorem g_put {a index ci k N : Nat} {C : String} {T : u_T} {ty : Nat → FieldType} {fs : List Value} {v : Value} (hF : FA μ.1 index ci k C T N ty) (hd : decode μ.2.1 pc = .ok (.putfield index, 3)) (hM : M a = some (.inr (ci, fs))) (hlen : k < fs.length) (hfin : (T k).2.2.2 = false) (hn : narrow (ty k) v = v) (hfit : fits (ty k) v = true) (kk : G Γ μ A E ce sl (hu M a (.inr (ci, fs.set k v))) n (pc + 3) vs st) : G Γ μ A E ce sl M n pc vs (v :: .ref a :: st) := by
  intro p e s m args below meth c H locs ls CC h1 h2 h3 h4 h5
  obtain ⟨c1, c2, c3, c4, c5, c6, c7, c8, c9, c10, c11, c12, c13⟩ := id CC
  obtain ⟨hc, hin, hk, hty, hnm, hl⟩ := hF
  have hap := va_apart (own := μ.1) c5 hin ty hty hnm c9 hc
  obtain ⟨r, q0, cell, q1, q2, q3, q4⟩ := h1 a _ hM
  have hr : r = (C, T, N) := Option.some.inj (q0.symm.trans hc)
  subst hr
  obtain ⟨hS, hfc, kC, hkC, hkind⟩ := c9.1 ci _ hc
  obtain ⟨cf, kf, fi, f, hi, hsl⟩ := hS k hk
  have hlay := c5 _ (hin _ (u_in_lay hk))
  unfold u_lay at hlay
  rw [if_neg (by rw [hfin]; decide)] at hlay
  have hst := (u_facts hfc hkC (u_lays c5 hin hk) hi).1
  have h6 := u_store hfc hkC hkind hlay hi (hty k hk) hn hfit
  have hA : A a := h3 a (by rw [hM]; simp)
  have fin : ∀ H' : Heap, H'[a]? = some (cell.setSlot f.slot v) → H'.size = H.size → (∀ q, q ≠ a → H'[q]? = H[q]?) → W p Γ.1 e μ.2.2.2.2.2.1 s m args below meth c H' (locs ++ [⟨a, f.slot⟩]) ce sl (E below args s) (F0 m (pc + 3) ls st) := by
    intro H' e1 e2 e3
    rw [hsl] at e1 ⊢
    exact kk p e s m args below meth c H' _ ls CC (h1.put ⟨_, hc, t_OB.to (V := updV (vp_V fs) k v) ⟨_, e1, q2, q3, t_set q4 hap hk v⟩ (fun j _ => vp_updV_set hlen v j)⟩ e3) (e2.trans h2) (hu_dom h3 hA) (h4.put e2 e3 hA) h5
  rcases hl with h | ⟨host, h⟩
  · exact W.putK c1 c2 (f := f) ⟨c4, c5 _ h, ⟨_, _, _, hi⟩, hst⟩ (by rw [q2]; exact h6) q1 q3 (by rw [hsl]; exact k2_hasslot (q4 k hk)) rfl rfl hd fin
  · exact va_WputK c1 c2 (f := f) c4 (c11.nb h) hi hst (by rw [q2]; exact h6) q1 q3 (by rw [hsl]; exact k2_hasslot (q4 k hk)) rfl rfl hd fin
/-- a final field, in its class's constructor -/
theorem g_putF {a index ci k N : Nat} {C : String} {T : u_T} {ty : Nat → FieldType} {fs : List Value} {v : Value} (hF : FA μ.1 index ci k C T N ty) (hd : decode μ.2.1 pc = .ok (.putfield index, 3)) (hM : M a = some (.inr (ci, fs))) (hlen : k < fs.length) (hfin : (T k).2.2.2 = true) (hw : Cond.fieldLink μ.1 index (T k).1 (T k).2.1 (T k).2.2.1 ∈ TB) (hdecl : (T k).1 = μ.1) (hnm9 : μ.2.2.2.2.1 = "<init>") (hn : narrow (ty k) v = v) (hfit : fits (ty k) v = true) (kk : G Γ μ A E ce sl (hu M a (.inr (ci, fs.set k v))) n (pc + 3) vs st) : G Γ μ A E ce sl M n pc vs (v :: .ref a :: st) := by
  intro p e s m args below meth c H locs ls CC h1 h2 h3 h4 h5
  obtain ⟨c1, c2, c3, c4, c5, c6, c7, c8, c9, c10, c11, c12, c13⟩ := id CC
  obtain ⟨hc, hin, hk, hty, hnm, -⟩ := hF
  have hap := va_apart (own := μ.1) c5 hin ty hty hnm c9 hc
  obtain ⟨r, q0, cell, q1, q2, q3, q4⟩ := h1 a _ hM
  have hr : r = (C, T, N) := Option.some.inj (q0.symm.trans hc)
  subst hr
  obtain ⟨hS, hfc, kC, hkC, hkind⟩ := c9.1 ci _ hc
  obtain ⟨cf, kf, fi, f, hi, hsl⟩ := hS k hk
  have hlay := c5 _ (hin _ (u_in_lay hk))
  unfold u_lay at hlay
  rw [if_pos hfin] at hlay
  have hst := (u_facts hfc hkC (u_lays c5 hin hk) hi).1
  have hcf : m.cls = cf := by
    obtain ⟨_, _, c', _, _, _, -, -, hf', -, -, -, hown2, -⟩ := Cond.laysFinal_spec hlay
    have e1 : c' = cf := by have := hi.symm.trans hf'; simp at this; exact this.1.symm
    rw [hdecl] at hown2
    rw [← e1]; exact Option.some.inj (c4.symm.trans hown2)
  have h6 := u_fits hfc hkC hkind (Or.inr hlay) hi (hty k hk) hn hfit
  have hA : A a := h3 a (by rw [hM]; simp)
  refine W.putFinK c1 c2 c4 (c5 _ hw) hi hst hcf (c8.trans hnm9) (by rw [q2]; exact h6) q1 q3 (by rw [hsl]; exact k2_hasslot (q4 k hk)) rfl rfl hd fun H' e1 e2 e3 => ?_
  rw [hsl] at e1 ⊢
  exact kk p e s m args below meth c H' _ ls CC (h1.put ⟨_, hc, t_OB.to (V := updV (vp_V fs) k v) ⟨_, e1, q2, q3, t_set q4 hap hk v⟩ (fun j _ => vp_updV_set hlen v j)⟩ e3) (e2.trans h2) (hu_dom h3 hA) (h4.put e2 e3 hA) h5
/-- an object -/
theorem g_new {index ci N : Nat} {C : String} {T : u_T} (ty : Nat → FieldType) (fs : List Value) (hc : cls[ci]? = some (C, T, N)) (hin : ∀ w ∈ u_ws C T N, w ∈ TB) (hty : ∀ j, j < N → parseFieldDescriptor (T j).2.2.1 = some (ty j)) (hfs : ∀ j, j < N → defaultValue (ty j) = vp_V fs j) (hd : decode μ.2.1 pc = .ok (.new index, 3)) (hcl : Cond.classLink μ.1 index C ∈ TB) (hinst : Cond.instantiable C N ∈ TB) (hini : Cond.initialized C ∈ TB) (hce : ce + 1 ≤ μ.2.2.2.2.2.1.cells) (hsl : sl + N ≤ μ.2.2.2.2.2.1.slots) (kk : G Γ μ A E (ce + 1) (sl + N) (hu M n (.inr (ci, fs))) (n + 1) (pc + 3) vs (.ref n :: st)) : G Γ μ A E ce sl M n pc vs st := by
  intro p e s m args below meth c H locs ls CC h1 h2 h3 h4 h5
  obtain ⟨c1, c2, c3, c4, c5, c6, c7, c8, c9, c10, c11, c12, c13⟩ := id CC
  subst h2
  have hKn := c9.1 ci _ hc
  refine W.newcK c1 c2 c4 (c5 _ hcl) (c5 _ hinst) (c5 _ hini) rfl hd hce hsl hKn.2.1 rfl fun H1 kC hkC e1 z1 o1 => ?_
  exact kk p e s m args below meth c H1 _ ls CC (h1.new ⟨_, hc, (u_born ty c5 hin hKn hkC e1 hty).to hfs⟩ o1) z1 (hu_dom h3 (c10 _ h4.1)) ⟨Nat.le_trans h4.1 (by omega), fun x g1 g2 => (o1 x (Nat.lt_of_lt_of_le g1 h4.1)).trans (h4.2.1 x g1 g2), h4.2.2⟩ h5

theorem g_iald {a N : Nat} {f : Nat → Int32} {i z : Int} (hd : decode μ.2.1 pc = .ok (.iaload, 1)) (hM : M a = some (.inl (Γ.2.2.1 1, N, .inl f))) (i1 : 0 ≤ i) (i2 : i < N) (hN : N < 2147483648) (hz : f i.toNat = iI z) (kk : G Γ μ A E ce sl M n (pc + 1) vs (.int (iI z) :: st)) : G Γ μ A E ce sl M n pc vs (.int (iI i) :: .ref a :: st) := by
  intro p e s m args below meth c H locs ls CC h1 h2 h3 h4 h5
  obtain ⟨c1, c2, c3, c4, c5, c6, c7, c8, c9, c10, c11, c12, c13⟩ := id CC
  refine va_iald c1 c2 c9 (h1.one hM) 0 1 rfl rfl (iI_in i1 i2 hN) hd ?_
  rw [iI_clamp i1 (by omega), hz]
  exact kk p e s m args below meth c H locs ls CC h1 h2 h3 h4 h5
theorem g_cald {a N : Nat} {f : Nat → Int32} {i z : Int} (hd : decode μ.2.1 pc = .ok (.caload, 1)) (hM : M a = some (.inl (Γ.2.2.1 0, N, .inl f))) (i1 : 0 ≤ i) (i2 : i < N) (hN : N < 2147483648) (hz : f i.toNat = iI z) (kk : G Γ μ A E ce sl M n (pc + 1) vs (.int (iI z) :: st)) : G Γ μ A E ce sl M n pc vs (.int (iI i) :: .ref a :: st) := by
  intro p e s m args below meth c H locs ls CC h1 h2 h3 h4 h5
  obtain ⟨c1, c2, c3, c4, c5, c6, c7, c8, c9, c10, c11, c12, c13⟩ := id CC
  refine va_cald c1 c2 c9 (h1.one hM) 0 0 rfl rfl (iI_in i1 i2 hN) hd ?_
  rw [iI_clamp i1 (by omega), hz]
  exact kk p e s m args below meth c H locs ls CC h1 h2 h3 h4 h5
theorem g_lald {a N : Nat} {f : Nat → Int64} {i : Int} {z : Int64} (hd : decode μ.2.1 pc = .ok (.laload, 1)) (hM : M a = some (.inl (Γ.2.2.1 3, N, .inr (.inl f)))) (i1 : 0 ≤ i) (i2 : i < N) (hN : N < 2147483648) (hz : f i.toNat = z) (kk : G Γ μ A E ce sl M n (pc + 1) vs (.long z :: st)) : G Γ μ A E ce sl M n pc vs (.int (iI i) :: .ref a :: st) := by
  intro p e s m args below meth c H locs ls CC h1 h2 h3 h4 h5
  obtain ⟨c1, c2, c3, c4, c5, c6, c7, c8, c9, c10, c11, c12, c13⟩ := id CC
  refine va_lald c1 c2 c9 (h1.one hM) 0 3 rfl rfl (iI_in i1 i2 hN) hd ?_
  rw [iI_clamp i1 (by omega), hz]
  exact kk p e s m args below meth c H locs ls CC h1 h2 h3 h4 h5
theorem g_aald {a N : Nat} (t : Nat) {C : String} {f : Nat → Option Nat} {i : Int} {v : Value} (ht : (tyL Γ.2.2.1)[t]? = some (Γ.2.2.1 t, .object C)) (hd : decode μ.2.1 pc = .ok (.aaload, 1)) (hM : M a = some (.inl (Γ.2.2.1 t, N, .inr (.inr (.inr (.inr f)))))) (i1 : 0 ≤ i) (i2 : i < N) (hN : N < 2147483648) (hz : va_rf (f i.toNat) = v) (kk : G Γ μ A E ce sl M n (pc + 1) vs (v :: st)) : G Γ μ A E ce sl M n pc vs (.int (iI i) :: .ref a :: st) := by
  intro p e s m args below meth c H locs ls CC h1 h2 h3 h4 h5
  obtain ⟨c1, c2, c3, c4, c5, c6, c7, c8, c9, c10, c11, c12, c13⟩ := id CC
  refine va_aldq c1 c2 c9 (h1.one hM) 0 t rfl ht (iI_in i1 i2 hN) hd ?_
  rw [iI_clamp i1 (by omega), hz]
  exact kk p e s m args below meth c H locs ls CC h1 h2 h3 h4 h5
theorem g_alen {a : Nat} (t : Nat) {x : vp_A} {ty : FieldType} (ht : (tyL Γ.2.2.1)[t]? = some (Γ.2.2.1 t, ty)) (hd : decode μ.2.1 pc = .ok (.arraylength, 1)) (hM : M a = some (.inl (Γ.2.2.1 t, x))) (kk : G Γ μ A E ce sl M n (pc + 1) vs (.int (iI (x.1 : Nat)) :: st)) : G Γ μ A E ce sl M n pc vs (.ref a :: st) := by
  intro p e s m args below meth c H locs ls CC h1 h2 h3 h4 h5
  obtain ⟨c1, c2, c3, c4, c5, c6, c7, c8, c9, c10, c11, c12, c13⟩ := id CC
  exact va_alen c1 c2 c9 (h1.one hM) 0 t rfl ht (iI_nI x.1) hd (kk p e s m args below meth c H locs ls CC h1 h2 h3 h4 h5)
theorem g_iast {a N : Nat} {f : Nat → Int32} {i : Int} {z : Int} (hd : decode μ.2.1 pc = .ok (.iastore, 1)) (hM : M a = some (.inl (Γ.2.2.1 1, N, .inl f))) (i1 : 0 ≤ i) (i2 : i < N) (hN : N < 2147483648) (kk : G Γ μ A E ce sl (hu M a (.inl (Γ.2.2.1 1, N, .inl (upd f i.toNat (iI z))))) n (pc + 1) vs st) : G Γ μ A E ce sl M n pc vs (.int (iI z) :: .int (iI i) :: .ref a :: st) := by
  intro p e s m args below meth c H locs ls CC h1 h2 h3 h4 h5
  obtain ⟨c1, c2, c3, c4, c5, c6, c7, c8, c9, c10, c11, c12, c13⟩ := id CC
  have hin := iI_in i1 i2 hN
  have hA : A a := h3 a (by rw [hM]; simp)
  refine W.iast c1 c2 (h1 a _ hM) ((c9.2 1 _ rfl).1 N (fun j => .int (f j))) (fun q => by cases q) (by show ¬ (iI i < 0 ∨ (arrV _ _ _).slots.size ≤ _); rw [arrV_size]; exact hin) rfl rfl hd fun H1 e1 z1 oq => ?_
  refine kk p e s m args below meth c H1 _ ls CC (h1.put ?_ oq) (z1.trans h2) (hu_dom h3 hA) (h4.put z1 oq hA) h5
  show H1[a]? = some (vp_cell _ _)
  rw [e1, iI_clamp i1 (by omega)]
  rw [vp_cell_i, vp_cell_i, arrV_store]
  congr 2
  funext q
  by_cases hq : q = i.toNat
  · subst hq
    simp [updV, upd]
  · simp [updV, upd, hq]
theorem g_cast {a N : Nat} {f : Nat → Int32} {i : Int} {z : Int} (hd : decode μ.2.1 pc = .ok (.castore, 1)) (hM : M a = some (.inl (Γ.2.2.1 0, N, .inl f))) (i1 : 0 ≤ i) (i2 : i < N) (hN : N < 2147483648) (hz : narrow .char (.int (iI z)) = .int (iI z)) (kk : G Γ μ A E ce sl (hu M a (.inl (Γ.2.2.1 0, N, .inl (upd f i.toNat (iI z))))) n (pc + 1) vs st) : G Γ μ A E ce sl M n pc vs (.int (iI z) :: .int (iI i) :: .ref a :: st) := by
  intro p e s m args below meth c H locs ls CC h1 h2 h3 h4 h5
  obtain ⟨c1, c2, c3, c4, c5, c6, c7, c8, c9, c10, c11, c12, c13⟩ := id CC
  have hin := iI_in i1 i2 hN
  have hA : A a := h3 a (by rw [hM]; simp)
  refine W.cast c1 c2 (h1 a _ hM) ((c9.2 0 _ rfl).1 N (fun j => .int (f j))) (fun q => by cases q) (by show ¬ (iI i < 0 ∨ (arrV _ _ _).slots.size ≤ _); rw [arrV_size]; exact hin) rfl rfl hd fun H1 e1 z1 oq => ?_
  refine kk p e s m args below meth c H1 _ ls CC (h1.put ?_ oq) (z1.trans h2) (hu_dom h3 hA) (h4.put z1 oq hA) h5
  show H1[a]? = some (vp_cell _ _)
  rw [e1, iI_clamp i1 (by omega)]
  rw [vp_cell_i, vp_cell_i, arrV_store]
  congr 2
  funext q
  by_cases hq : q = i.toNat
  · subst hq
    simp [updV, upd, hz]
  · simp [updV, upd, hq]
theorem g_last {a N : Nat} {f : Nat → Int64} {i : Int} {z : Int64} (hd : decode μ.2.1 pc = .ok (.lastore, 1)) (hM : M a = some (.inl (Γ.2.2.1 3, N, .inr (.inl f)))) (i1 : 0 ≤ i) (i2 : i < N) (hN : N < 2147483648) (kk : G Γ μ A E ce sl (hu M a (.inl (Γ.2.2.1 3, N, .inr (.inl (vp_updL f i.toNat z))))) n (pc + 1) vs st) : G Γ μ A E ce sl M n pc vs (.long z :: .int (iI i) :: .ref a :: st) := by
  intro p e s m args below meth c H locs ls CC h1 h2 h3 h4 h5
  obtain ⟨c1, c2, c3, c4, c5, c6, c7, c8, c9, c10, c11, c12, c13⟩ := id CC
  have hin := iI_in i1 i2 hN
  have hA : A a := h3 a (by rw [hM]; simp)
  refine W.last c1 c2 (h1 a _ hM) ((c9.2 3 _ rfl).1 N (fun j => .long (f j))) (fun q => by cases q) (by show ¬ (iI i < 0 ∨ (arrV _ _ _).slots.size ≤ _); rw [arrV_size]; exact hin) rfl rfl hd fun H1 e1 z1 oq => ?_
  refine kk p e s m args below meth c H1 _ ls CC (h1.put ?_ oq) (z1.trans h2) (hu_dom h3 hA) (h4.put z1 oq hA) h5
  show H1[a]? = some (vp_cell _ _)
  rw [e1, iI_clamp i1 (by omega)]
  rw [vp_cell_l, vp_cell_l, arrV_store]
  congr 2
  funext q
  by_cases hq : q = i.toNat
  · subst hq
    simp [updV, vp_updL]
  · simp [updV, vp_updL, hq]
theorem g_aast {a N v ci : Nat} (t : Nat) {r : vw_C} {ws9 : List Value} {f : Nat → Option Nat} {i : Int} (ht : (tyL Γ.2.2.1)[t]? = some (Γ.2.2.1 t, .object r.1)) (hc : cls[ci]? = some r) (hd : decode μ.2.1 pc = .ok (.aastore, 1)) (hM : M a = some (.inl (Γ.2.2.1 t, N, .inr (.inr (.inr (.inr f)))))) (hv : M v = some (.inr (ci, ws9))) (i1 : 0 ≤ i) (i2 : i < N) (hN : N < 2147483648) (kk : G Γ μ A E ce sl (hu M a (.inl (Γ.2.2.1 t, N, .inr (.inr (.inr (.inr (va_up f i.toNat (some v)))))))) n (pc + 1) vs st) : G Γ μ A E ce sl M n pc vs (.ref v :: .int (iI i) :: .ref a :: st) := by
  intro p e s m args below meth c H locs ls CC h1 h2 h3 h4 h5
  obtain ⟨c1, c2, c3, c4, c5, c6, c7, c8, c9, c10, c11, c12, c13⟩ := id CC
  have hin := iI_in i1 i2 hN
  have hA : A a := h3 a (by rw [hM]; simp)
  obtain ⟨r', hr', cellV, g1, g2, g3, -⟩ := h1 v _ hv
  have hcls := (c9.1 ci r hc).2
  obtain ⟨kA, comp, k1, k2, k3, -⟩ := (c9.2 t _ ht).2
  have hcomp : comp = Γ.2.1.1 ci := Option.some.inj (k3.symm.trans hcls.1)
  subst hcomp
  obtain ⟨kC, hkC, -⟩ := hcls.2
  have hlt : (iI i).toNatClampNeg < N := Nat.not_le.mp fun q => hin (Or.inr q)
  have h0 : ¬ iI i < 0 := fun q => hin (Or.inl q)
  refine W.aast c1 c2 (h1 a _ hM) (fun q h => by cases h) (fun h => by cases h) k1 k2 rfl hkC ⟨h0, by show _ < (arrV _ _ _).slots.size; rw [arrV_size]; exact hlt⟩ g1 (fun q h => by rw [g3] at h; cases h) (by rw [g2]; exact hkC) (by rw [g2]; exact va_assign hcls) rfl rfl hd fun H1 e1 z1 oq => ?_
  refine kk p e s m args below meth c H1 _ ls CC (h1.put ?_ oq) (z1.trans h2) (hu_dom h3 hA) (h4.put z1 oq hA) h5
  show H1[a]? = some (vp_cell _ _)
  rw [e1, iI_clamp i1 (by omega)]
  rw [vp_cell_q, vp_cell_q, arrV_store]
  congr 2
  funext q
  by_cases hq : q = i.toNat
  · subst hq
    simp [updV, va_up, va_rf]
  · simp [updV, va_up, hq]
theorem g_newai {k : Nat} (hd : decode μ.2.1 pc = .ok (.newarray .int, 2)) (harr : Cond.arrayClass .int ∈ TB) (hk : k ≤ 60000000) (hce : ce + 1 ≤ μ.2.2.2.2.2.1.cells) (hsl : sl + k ≤ μ.2.2.2.2.2.1.slots) (kk : G Γ μ A E (ce + 1) (sl + k) (hu M n (.inl (Γ.2.2.1 1, k, .inl (fun _ => iI 0)))) (n + 1) (pc + 2) vs (.ref n :: st)) : G Γ μ A E ce sl M n pc vs (.int (iI (k : Nat)) :: st) := by
  intro p e s m args below meth c H locs ls CC h1 h2 h3 h4 h5
  obtain ⟨c1, c2, c3, c4, c5, c6, c7, c8, c9, c10, c11, c12, c13⟩ := id CC
  subst h2
  have hn0 : ¬ iI (k : Nat) < 0 := by
    rw [show (0 : Int32) = iI 0 from rfl, iI_lt (by omega) (by omega) (by omega) (by omega)]; omega
  refine va_newaK (atype := .int) c1 c2 (c5 _ harr) rfl hd rfl hn0 (by rw [iI_clamp (by omega) (by omega)]; rfl) (by show k * _ ≤ _; simp [componentBytes, newarray.typeOf]; omega) hce hsl rfl fun H1 cA e1 z1 o1 hAr hNm => ?_
  have hcA : cA = Γ.2.2.1 1 := by
    have h9 : s.vm.findClass ("[" ++ (FieldType.int).toString) = some (Γ.2.2.1 1) := (c9.2 1 _ rfl).2
    exact Option.some.inj (hNm.symm.trans h9)
  subst hcA
  exact kk p e s m args below meth c H1 _ ls CC (h1.new (by show H1[H.size]? = some (vp_cell _ _); rw [vp_cell_i]; exact e1) o1) z1 (hu_dom h3 (c10 _ h4.1)) ⟨Nat.le_trans h4.1 (by omega), fun x g1 g2 => (o1 x (Nat.lt_of_lt_of_le g1 h4.1)).trans (h4.2.1 x g1 g2), h4.2.2⟩ h5
theorem g_newac {k : Nat} (hd : decode μ.2.1 pc = .ok (.newarray .char, 2)) (harr : Cond.arrayClass .char ∈ TB) (hk : k ≤ 60000000) (hce : ce + 1 ≤ μ.2.2.2.2.2.1.cells) (hsl : sl + k ≤ μ.2.2.2.2.2.1.slots) (kk : G Γ μ A E (ce + 1) (sl + k) (hu M n (.inl (Γ.2.2.1 0, k, .inl (fun _ => iI 0)))) (n + 1) (pc + 2) vs (.ref n :: st)) : G Γ μ A E ce sl M n pc vs (.int (iI (k : Nat)) :: st) := by
  intro p e s m args below meth c H locs ls CC h1 h2 h3 h4 h5
  obtain ⟨c1, c2, c3, c4, c5, c6, c7, c8, c9, c10, c11, c12, c13⟩ := id CC
  subst h2
  have hn0 : ¬ iI (k : Nat) < 0 := by
    rw [show (0 : Int32) = iI 0 from rfl, iI_lt (by omega) (by omega) (by omega) (by omega)]; omega
  refine va_newaK (atype := .char) c1 c2 (c5 _ harr) rfl hd rfl hn0 (by rw [iI_clamp (by omega) (by omega)]; rfl) (by show k * _ ≤ _; simp [componentBytes, newarray.typeOf]; omega) hce hsl rfl fun H1 cA e1 z1 o1 hAr hNm => ?_
  have hcA : cA = Γ.2.2.1 0 := by
    have h9 : s.vm.findClass ("[" ++ (FieldType.char).toString) = some (Γ.2.2.1 0) := (c9.2 0 _ rfl).2
    exact Option.some.inj (hNm.symm.trans h9)
  subst hcA
  exact kk p e s m args below meth c H1 _ ls CC (h1.new (by show H1[H.size]? = some (vp_cell _ _); rw [vp_cell_i]; exact e1) o1) z1 (hu_dom h3 (c10 _ h4.1)) ⟨Nat.le_trans h4.1 (by omega), fun x g1 g2 => (o1 x (Nat.lt_of_lt_of_le g1 h4.1)).trans (h4.2.1 x g1 g2), h4.2.2⟩ h5
theorem g_newal {k : Nat} (hd : decode μ.2.1 pc = .ok (.newarray .long, 2)) (harr : Cond.arrayClass .long ∈ TB) (hk : k ≤ 60000000) (hce : ce + 1 ≤ μ.2.2.2.2.2.1.cells) (hsl : sl + k ≤ μ.2.2.2.2.2.1.slots) (kk : G Γ μ A E (ce + 1) (sl + k) (hu M n (.inl (Γ.2.2.1 3, k, .inr (.inl (fun _ => 0))))) (n + 1) (pc + 2) vs (.ref n :: st)) : G Γ μ A E ce sl M n pc vs (.int (iI (k : Nat)) :: st) := by
  intro p e s m args below meth c H locs ls CC h1 h2 h3 h4 h5
  obtain ⟨c1, c2, c3, c4, c5, c6, c7, c8, c9, c10, c11, c12, c13⟩ := id CC
  subst h2
  have hn0 : ¬ iI (k : Nat) < 0 := by
    rw [show (0 : Int32) = iI 0 from rfl, iI_lt (by omega) (by omega) (by omega) (by omega)]; omega
  refine va_newaK (atype := .long) c1 c2 (c5 _ harr) rfl hd rfl hn0 (by rw [iI_clamp (by omega) (by omega)]; rfl) (by show k * _ ≤ _; simp [componentBytes, newarray.typeOf]; omega) hce hsl rfl fun H1 cA e1 z1 o1 hAr hNm => ?_
  have hcA : cA = Γ.2.2.1 3 := by
    have h9 : s.vm.findClass ("[" ++ (FieldType.long).toString) = some (Γ.2.2.1 3) := (c9.2 3 _ rfl).2
    exact Option.some.inj (hNm.symm.trans h9)
  subst hcA
  exact kk p e s m args below meth c H1 _ ls CC (h1.new (by show H1[H.size]? = some (vp_cell _ _); rw [vp_cell_l]; exact e1) o1) z1 (hu_dom h3 (c10 _ h4.1)) ⟨Nat.le_trans h4.1 (by omega), fun x g1 g2 => (o1 x (Nat.lt_of_lt_of_le g1 h4.1)).trans (h4.2.1 x g1 g2), h4.2.2⟩ h5
theorem g_anew {k index : Nat} (t : Nat) {C : String} (ht : (tyL Γ.2.2.1)[t]? = some (Γ.2.2.1 t, .object C)) (hd : decode μ.2.1 pc = .ok (.anewarray index, 3)) (hcl : Cond.classLink μ.1 index C ∈ TB) (hov : Cond.arrayOver (.object C) ∈ NB) (hk : k ≤ 60000000) (hce : ce + 1 ≤ μ.2.2.2.2.2.1.cells) (hsl : sl + k ≤ μ.2.2.2.2.2.1.slots) (kk : G Γ μ A E (ce + 1) (sl + k) (hu M n (.inl (Γ.2.2.1 t, k, .inr (.inr (.inr (.inr (fun _ => none))))))) (n + 1) (pc + 3) vs (.ref n :: st)) : G Γ μ A E ce sl M n pc vs (.int (iI (k : Nat)) :: st) := by
  intro p e s m args below meth c H locs ls CC h1 h2 h3 h4 h5
  obtain ⟨c1, c2, c3, c4, c5, c6, c7, c8, c9, c10, c11, c12, c13⟩ := id CC
  subst h2
  have hn0 : ¬ iI (k : Nat) < 0 := by
    rw [show (0 : Int32) = iI 0 from rfl, iI_lt (by omega) (by omega) (by omega) (by omega)]; omega
  have hcl9 : (iI (k : Nat)).toNatClampNeg = k := by rw [iI_clamp (by omega) (by omega)]; rfl
  refine W.anew c1 c2 c4 (c5 _ hcl) (c11.nb hov) rfl hd rfl hn0 (by rw [hcl9]; omega) hce (by rw [hcl9]; exact hsl) fun cA kA comp f1 f2 f3 f4 => ?_
  rw [hcl9]
  have hcA : cA = Γ.2.2.1 t := by
    obtain ⟨kA', comp', q1, q2, q3, q4⟩ := (c9.2 t _ ht).2
    exact Option.some.inj (f1.symm.trans q4)
  subst hcA
  generalize hH1 : H.push ({ cls := Γ.2.2.1 t, slots := Array.replicate k .null, vm := .none } : Cell) = H1
  have z1 : H1.size = H.size + 1 := by rw [← hH1, Array.size_push]
  have e1 : H1[H.size]? = some (arrV (Γ.2.2.1 t) k (fun _ => .null)) := by rw [← hH1, Array.getElem?_push_size, ← arrV_new]
  have o1 : ∀ q : Nat, q < H.size → H1[q]? = H[q]? := fun q hq => by rw [← hH1, Array.getElem?_push, if_neg (Nat.ne_of_lt hq)]
  exact kk p e s m args below meth c H1 _ ls CC (h1.new (by show H1[H.size]? = some (vp_cell _ _); rw [vp_cell_q]; exact e1) o1) z1 (hu_dom h3 (c10 _ h4.1)) ⟨Nat.le_trans h4.1 (by omega), fun x g1 g2 => (o1 x (Nat.lt_of_lt_of_le g1 h4.1)).trans (h4.2.1 x g1 g2), h4.2.2⟩ h5
theorem g_anewA {k index : Nat} (hd : decode μ.2.1 pc = .ok (.anewarray index, 3)) (hcl : Cond.classLink μ.1 index (FieldType.array .int).toString ∈ TB) (hov : Cond.arrayOver (.array .int) ∈ NB) (hk : k ≤ 60000000) (hce : ce + 1 ≤ μ.2.2.2.2.2.1.cells) (hsl : sl + k ≤ μ.2.2.2.2.2.1.slots) (kk : G Γ μ A E (ce + 1) (sl + k) (hu M n (.inl (Γ.2.2.1 5, k, .inr (.inr (.inr (.inr (fun _ => none))))))) (n + 1) (pc + 3) vs (.ref n :: st)) : G Γ μ A E ce sl M n pc vs (.int (iI (k : Nat)) :: st) := by
  intro p e s m args below meth c H locs ls CC h1 h2 h3 h4 h5
  obtain ⟨c1, c2, c3, c4, c5, c6, c7, c8, c9, c10, c11, c12, c13⟩ := id CC
  subst h2
  have hn0 : ¬ iI (k : Nat) < 0 := by
    rw [show (0 : Int32) = iI 0 from rfl, iI_lt (by omega) (by omega) (by omega) (by omega)]; omega
  have hcl9 : (iI (k : Nat)).toNatClampNeg = k := by rw [iI_clamp (by omega) (by omega)]; rfl
  refine W.anewA (t := .int) c1 c2 c4 (c5 _ hcl) (c11.nb hov) rfl hd rfl hn0 (by rw [hcl9]; omega) hce (by rw [hcl9]; exact hsl) fun cA kA comp f1 f2 f3 f4 => ?_
  rw [hcl9]
  have hcA : cA = Γ.2.2.1 5 := by
    have h9 : s.vm.findClass ("[" ++ (FieldType.array .int).toString) = some (Γ.2.2.1 5) := (c9.2 5 _ rfl).2
    exact Option.some.inj (f1.symm.trans h9)
  subst hcA
  generalize hH1 : H.push ({ cls := Γ.2.2.1 5, slots := Array.replicate k .null, vm := .none } : Cell) = H1
  have z1 : H1.size = H.size + 1 := by rw [← hH1, Array.size_push]
  have e1 : H1[H.size]? = some (arrV (Γ.2.2.1 5) k (fun _ => .null)) := by rw [← hH1, Array.getElem?_push_size, ← arrV_new]
  have o1 : ∀ q : Nat, q < H.size → H1[q]? = H[q]? := fun q hq => by rw [← hH1, Array.getElem?_push, if_neg (Nat.ne_of_lt hq)]
  exact kk p e s m args below meth c H1 _ ls CC (h1.new (by show H1[H.size]? = some (vp_cell _ _); rw [vp_cell_q]; exact e1) o1) z1 (hu_dom h3 (c10 _ h4.1)) ⟨Nat.le_trans h4.1 (by omega), fun x g1 g2 => (o1 x (Nat.lt_of_lt_of_le g1 h4.1)).trans (h4.2.1 x g1 g2), h4.2.2⟩ h5
theorem g_alenN {a N : Nat} (t : Nat) {x : (Nat → Int32) ⊕ (Nat → Int64) ⊕ (Nat → UInt32) ⊕ (Nat → UInt64) ⊕ (Nat → Option Nat)} {ty : FieldType} (ht : (tyL Γ.2.2.1)[t]? = some (Γ.2.2.1 t, ty)) (hd : decode μ.2.1 pc = .ok (.arraylength, 1)) (hM : M a = some (.inl (Γ.2.2.1 t, N, x))) (kk : G Γ μ A E ce sl M n (pc + 1) vs (.int (iI (N : Nat)) :: st)) : G Γ μ A E ce sl M n pc vs (.ref a :: st) := g_alen t ht hd hM kk
theorem g_objInit {a idx : Nat} (hd : decode μ.2.1 pc = .ok (.invokespecial idx, 3)) (hl : Cond.methodLink μ.1 idx objectInit ∈ TB) (hi : Cond.instanceMethod objectInit ∈ TB) (hcd : Cond.code objectInit ⟨#[0xb1]⟩ 1 none ∈ TB) (hf : 1 ≤ μ.2.2.2.2.2.1.frames) (hlo : (st.map fun v => v.category).sum + 12 ≤ μ.2.2.2.2.2.1.locals) (kk : G Γ μ A E ce sl M n (pc + 3) vs st) : G Γ μ A E ce sl M n pc vs (.ref a :: st) := by
  intro p e s m args below meth c H locs ls CC h1 h2 h3 h4 h5
  obtain ⟨c1, c2, c3, c4, c5, c6, c7, c8, c9, c10, c11, c12, c13⟩ := id CC
  exact W.objInit c1 c2 c4 (c5 _ hl) (c5 _ hi) (c5 _ hcd) rfl (by rw [c3]; exact h5.1) rfl hd hf (by show 2 * 0 + _ + 12 ≤ _; omega) (kk p e s m args below meth c H locs ls CC h1 h2 h3 h4 h5)
theorem g_max {x y : Int} {index : Nat} (hd : decode μ.2.1 pc = .ok (.invokestatic index, 3)) (hl : Cond.methodLink μ.1 index Lib.Math.max.name ∈ TB) (hs : Cond.static Lib.Math.max.name ∈ TB) (hi : Cond.initialized "java/lang/Math" ∈ TB) (hcd : Cond.code Lib.Math.max.name Lib.Math.max.code 2 (some .int) ∈ TB) (hf : 1 ≤ μ.2.2.2.2.2.1.frames) (hlo : (st.map fun v => v.category).sum + 13 ≤ μ.2.2.2.2.2.1.locals) (hc : ce ≤ μ.2.2.2.2.2.1.cells) (hsl : sl ≤ μ.2.2.2.2.2.1.slots) (x1 : -2147483648 ≤ x) (x2 : x < 2147483648) (y1 : -2147483648 ≤ y) (y2 : y < 2147483648) (kk : G Γ μ A E ce sl M n (pc + 3) vs (.int (iI (max x y)) :: st)) : G Γ μ A E ce sl M n pc vs (.int (iI y) :: .int (iI x) :: st) := by
  intro p e s m args below meth c H locs ls CC h1 h2 h3 h4 h5
  obtain ⟨c1, c2, c3, c4, c5, c6, c7, c8, c9, c10, c11, c12, c13⟩ := id CC
  refine va_mmax c1 c2 (by rw [c3]; exact h5.1.symm) c4 (c5 _ hl) (c5 _ hs) (c5 _ hi) (c5 _ hcd) hf hlo hc hsl hd ?_
  have e9 : (if iI x < iI y then iI y else iI x) = iI (max x y) := by
    by_cases h : x < y
    · rw [if_pos ((iI_lt x1 x2 y1 y2).mpr h)]; congr 1; omega
    · rw [if_neg (fun z => h ((iI_lt x1 x2 y1 y2).mp z))]; congr 1; omega
  rw [e9]
  exact kk p e s m args below meth c H locs ls CC h1 h2 h3 h4 h5
end HR
end
section
/-! ===== entry, ends, calls ===== -/
def lvE : List Value → List (Option Value)
  | [] => []
  | v :: vs => if v.category = 2 then some v :: none :: lvE vs else some v :: lvE vs
theorem lvE_mem (k : Nat) (w : Value) : ∀ (av : List Value) (base i : Nat), (lvE av ++ List.replicate k none)[i]? = some (some w) → (base + i, w) ∈ lv_args base av := by
  intro av
  induction av with
  | nil =>
    intro base i h
    exfalso
    simp only [lvE, List.nil_append, List.getElem?_replicate] at h
    split at h <;> simp at h
  | cons v vs ih =>
    intro base i h
    unfold lvE at h
    unfold lv_args
    by_cases hc : v.category = 2
    · rw [if_pos hc] at h ⊢
      match i, h with
      | 0, h => simp at h; subst h; exact List.mem_cons_self
      | 1, h => simp at h
      | i + 2, h =>
        have h9 := ih (base + 2) i (by simpa using h)
        exact List.mem_cons_of_mem _ (by rw [show base + (i + 2) = base + 2 + i by omega]; exact h9)
    · rw [if_neg hc] at h ⊢
      match i, h with
      | 0, h => simp at h; subst h; exact List.mem_cons_self
      | i + 1, h =>
        have h9 := ih (base + 1) i (by simpa using h)
        exact List.mem_cons_of_mem _ (by rw [show base + (i + 1) = base + 1 + i by omega]; exact h9)
theorem LV.entry {ls : Array Slot} {nL k : Nat} {av : List Value} (h : lv_has ls nL (lv_args 0 av)) : LV ls nL (lvE av ++ List.replicate k none) :=
  ⟨h.1, h.2.1, fun q hq => h.2.2 q (by have h9 := lvE_mem k q.2 av 0 q.1 (lvOf_mem.mp hq); rwa [Nat.zero_add] at h9)⟩
theorem CT.of {Γ : GE} {μ : MS} {y : MethodName} {av : List Value} {M : HM} {n : Nat} {Q : Option Value → HM → Nat → Prop} {vs : List (Option Value)} (hy : plainName y.cls = true) (hown : y.cls = μ.1) (hnm : y.name = μ.2.2.2.2.1) (k : Nat) (hvs : lvE av ++ List.replicate k none = vs) (hlen : (lg_sl av).length ≤ μ.2.2.1) (hhh : μ.2.2.2.2.2.2 = [])
    (h : G Γ μ (AA M n) (EM Γ μ (AA M n) Q) 0 0 M n 0 vs []) : CT Γ μ y av M n Q := by
  refine Met.ofW (cc := μ.2.1) (maxL := μ.2.2.1) (ret := μ.2.2.2.1) hy rfl ?_
  intro p e s m args below meth c s₁ B hml hv
  obtain ⟨rfl, h1, h2, h3, h4, h5⟩ := hv
  have hts := atoms_spec (ws := Cond.code y μ.2.1 μ.2.2.1 μ.2.2.2.1 :: TB) B.pre
  have hown' : s.vm.findClass y.cls = some m.cls := findClass_of_methodNamed B.named
  have hin : meth.name = y.name := (name_of_methodNamed B.named B.method).1
  have htab : c.exceptionTable.toList = tableOf μ.2.2.2.2.2.2 := by
    obtain ⟨meth9, c9, q1, q2, -, -, -, -, q7, -⟩ := Cond.code_spec B.named (hts _ List.mem_cons_self)
    cases Option.some.inj (q1.symm.trans B.method)
    cases Option.some.inj (q2.symm.trans (Stand.of_body B).code)
    rw [hhh, Array.isEmpty_iff.mp q7]
    rfl
  have hl := lv_entry av (n := μ.2.2.1) hlen
  rw [lg_entry_eq]
  rw [← hvs] at h
  exact h p e s m _ below meth c s.heap [] _ ⟨B.exec, B.bytes, hml, by rw [← hown]; exact hown', fun w hw => hts w (List.mem_cons_of_mem _ hw), B.returns, B.notSynchronized, hin.trans hnm, h3, fun q hq => Or.inr (by omega), h4, h5, htab⟩ h1 h2 (fun q hq => Or.inl hq) va_S.rf (LV.entry hl)
theorem CX.of {Γ : GE} {μ : MS} {y : MethodName} {av : List Value} {M : HM} {n : Nat} {Q : Option Value → HM → Nat → Prop} {X : String → HM → Nat → Prop} {vs : List (Option Value)} (hy : plainName y.cls = true) (hown : y.cls = μ.1) (hnm : y.name = μ.2.2.2.2.1) (k : Nat) (hvs : lvE av ++ List.replicate k none = vs) (hlen : (lg_sl av).length ≤ μ.2.2.1) (hhh : μ.2.2.2.2.2.2 = [])
    (h : G Γ μ (AA M n) (EX Γ μ (AA M n) Q X) 0 0 M n 0 vs []) : CX Γ μ y av M n Q X := by
  refine vx_ofW (cc := μ.2.1) (maxL := μ.2.2.1) (ret := μ.2.2.2.1) hy rfl ?_
  intro p e s m args below meth c s₁ B hml htab0 hv
  obtain ⟨rfl, h1, h2, h3, h4, h5⟩ := hv
  have hts := atoms_spec (ws := Cond.code y μ.2.1 μ.2.2.1 μ.2.2.2.1 :: TB) B.pre
  have hown' : s.vm.findClass y.cls = some m.cls := findClass_of_methodNamed B.named
  have hin : meth.name = y.name := (name_of_methodNamed B.named B.method).1
  have htab : c.exceptionTable.toList = tableOf μ.2.2.2.2.2.2 := by
    rw [hhh]
    cases he : c.exceptionTable.toList with
    | nil => rfl
    | cons a b => exact (htab0 a (by rw [he]; exact List.mem_cons_self)).elim
  have hl := lv_entry av (n := μ.2.2.1) hlen
  rw [lg_entry_eq]
  rw [← hvs] at h
  exact h p e s m _ below meth c s.heap [] _ ⟨B.exec, B.bytes, hml, by rw [← hown]; exact hown', fun w hw => hts w (List.mem_cons_of_mem _ hw), B.returns, B.notSynchronized, hin.trans hnm, h3, fun q hq => Or.inr (by omega), h4, h5, htab⟩ h1 h2 (fun q hq => Or.inl hq) va_S.rf (LV.entry hl)
theorem good_TB {ws : List Cond} (h : ∀ w ∈ ws, w ∈ TB) : GoodIn TB ws := fun w hw => ⟨h w hw, good_of_word (List.mem_filter.mp (h w hw)).2⟩
theorem pc_blind {Γ : GE} {av : List Value} {M : HM} {n : Nat} : FrameBlind (PC Γ av M n) := fun a U g mk h => ⟨h.1, h.2.1, h.2.2.1, va_K.moved (u := U) (U := U.calling g mk a) (Vm.Alike.refl U.vm) h.2.2.2.1, (show ZL Γ (AA M n) (U.calling g mk a) U.heap from ZL.same (u := U) (U := U.calling g mk a) rfl h.2.2.2.2.1), h.2.2.2.2.2⟩
/-- the words of a call -/
def CW (own : String) (index : Nat) (y : MethodName) (ν : MS) (na : Nat) : Prop := Cond.methodLink own index y ∈ TB ∧ Cond.initialized y.cls ∈ TB ∧ Cond.code y ν.2.1 ν.2.2.1 ν.2.2.2.1 ∈ TB ∧ (y.cls ≠ "java/lang/invoke/MethodHandle" ∧ y.cls ≠ "java/lang/invoke/VarHandle" ∧ (parseMethodDescriptor y.desc).map (fun d => d.parameters.length) = some na)
def CWN (own : String) (index : Nat) (y : MethodName) (ν : MS) (na : Nat) : Prop := (∃ host, Cond.methodLinkNest own index y host ∈ NB) ∧ Cond.initialized y.cls ∈ TB ∧ Cond.code y ν.2.1 ν.2.2.1 ν.2.2.2.1 ∈ TB ∧ (y.cls ≠ "java/lang/invoke/MethodHandle" ∧ y.cls ≠ "java/lang/invoke/VarHandle" ∧ (parseMethodDescriptor y.desc).map (fun d => d.parameters.length) = some na)
def RM (μ ν : MS) (ce sl : Nat) : Prop := (ν.2.2.2.2.2.1.frames + 1 ≤ μ.2.2.2.2.2.1.frames ∧ 8 + (ν.2.2.1 + 11) + ν.2.2.2.2.2.1.locals ≤ μ.2.2.2.2.2.1.locals) ∧ (ce + ν.2.2.2.2.2.1.cells ≤ μ.2.2.2.2.2.1.cells ∧ sl + ν.2.2.2.2.2.1.slots ≤ μ.2.2.2.2.2.1.slots)
theorem cw_in {y : MethodName} {ν : MS} (hcd : Cond.code y ν.2.1 ν.2.2.1 ν.2.2.2.1 ∈ TB) : ∀ w ∈ Cond.code y ν.2.1 ν.2.2.1 ν.2.2.2.1 :: TB, w ∈ TB := fun w hw => (List.mem_cons.mp hw).elim (fun e => by rw [e]; exact hcd) id
section CR
variable {Γ : GE} {μ ν : MS} {A : Nat → Prop} {E : List Frame → Array Value → State → State → Prop} {ce sl : Nat} {M : HM} {n pc : Nat} {vs : List (Option Value)} {st : List Value} {Q : Option Value → HM → Nat → Prop} {X : String → HM → Nat → Prop} {Q' : Option Value → HM → Nat → Prop} {X' : String → HM → Nat → Prop} {y : MethodName}

theorem g_iret {z : Int} (hd : decode μ.2.1 pc = .ok (.ireturn, 1)) (hr : μ.2.2.2.1 = some .int) (hq : Q (some (.int (iI z))) M n) (hce : ce ≤ μ.2.2.2.2.2.1.cells) (hsl : sl ≤ μ.2.2.2.2.2.1.slots) : G Γ μ A (EM Γ μ A Q) ce sl M n pc vs [.int (iI z)] := by
  intro p e s m args below meth c H locs ls CC h1 h2 h3 h4 h5
  obtain ⟨c1, c2, c3, c4, c5, c6, c7, c8, c9, c10, c11, c12, c13⟩ := id CC
  refine W.widen hce hsl ?_
  exact W.iret c1 c2 (c6.trans hr) (fun t ht hW => ⟨⟨_, M, rfl, by rw [ht]; exact h1, h3, by rw [ht, h2]; exact hq⟩, h4.F ht⟩) h4.2.2 hd c7
theorem g_zret {z : Int} {ty : FieldType} (hn : narrow ty (.int (iI z)) = .int (iI z)) (hd : decode μ.2.1 pc = .ok (.ireturn, 1)) (hr : μ.2.2.2.1 = some ty) (hq : Q (some (.int (iI z))) M n) (hce : ce ≤ μ.2.2.2.2.2.1.cells) (hsl : sl ≤ μ.2.2.2.2.2.1.slots) : G Γ μ A (EM Γ μ A Q) ce sl M n pc vs [.int (iI z)] := by
  intro p e s m args below meth c H locs ls CC h1 h2 h3 h4 h5
  obtain ⟨c1, c2, c3, c4, c5, c6, c7, c8, c9, c10, c11, c12, c13⟩ := id CC
  refine W.widen hce hsl ?_
  exact W.zret c1 c2 (c6.trans hr) hn (fun t ht hW => ⟨⟨_, M, rfl, by rw [ht]; exact h1, h3, by rw [ht, h2]; exact hq⟩, h4.F ht⟩) h4.2.2 hd c7
theorem g_vret (hd : decode μ.2.1 pc = .ok (.return_, 1)) (hr : μ.2.2.2.1 = none) (hq : Q (none) M n) (hce : ce ≤ μ.2.2.2.2.2.1.cells) (hsl : sl ≤ μ.2.2.2.2.2.1.slots) : G Γ μ A (EM Γ μ A Q) ce sl M n pc vs [] := by
  intro p e s m args below meth c H locs ls CC h1 h2 h3 h4 h5
  obtain ⟨c1, c2, c3, c4, c5, c6, c7, c8, c9, c10, c11, c12, c13⟩ := id CC
  refine W.widen hce hsl ?_
  exact W.vret c1 c2 (c6.trans hr) (fun t ht hW => ⟨⟨_, M, rfl, by rw [ht]; exact h1, h3, by rw [ht, h2]; exact hq⟩, h4.F ht⟩) h4.2.2 hd c7
theorem g_aret {v : Value} {rt : FieldType} (hrt : (∃ n, rt = .object n) ∨ ∃ t, rt = .array t) (hv : v = .null ∨ ∃ a, v = .ref a) (hd : decode μ.2.1 pc = .ok (.areturn, 1)) (hr : μ.2.2.2.1 = some rt) (hq : Q (some v) M n) (hce : ce ≤ μ.2.2.2.2.2.1.cells) (hsl : sl ≤ μ.2.2.2.2.2.1.slots) : G Γ μ A (EM Γ μ A Q) ce sl M n pc vs [v] := by
  intro p e s m args below meth c H locs ls CC h1 h2 h3 h4 h5
  obtain ⟨c1, c2, c3, c4, c5, c6, c7, c8, c9, c10, c11, c12, c13⟩ := id CC
  refine W.widen hce hsl ?_
  exact W.aret c1 c2 (c6.trans hr) hrt hv (fun t ht hW => ⟨⟨_, M, rfl, by rw [ht]; exact h1, h3, by rw [ht, h2]; exact hq⟩, h4.F ht⟩) h4.2.2 hd c7
theorem g_x (k : G Γ μ A (EM Γ μ A Q) ce sl M n pc vs st) : G Γ μ A (EX Γ μ A Q X) ce sl M n pc vs st := fun p e s m args below meth c H locs ls CC h1 h2 h3 h4 h5 => vx_ret (k p e s m args below meth c H locs ls CC h1 h2 h3 h4 h5)
theorem g_sub {p : Program} {e : Env} {s : State} {m : MethodId} {args : Array Value} {meth : Method} {c : Code} {H : Heap} {locs : List Loc} (CC : Ct Γ μ A p e s m args meth c) (h2 : H.size = n) (h3 : ∀ q, M q ≠ none → A q) (h4 : va_S A s.heap H locs) : ∀ q, AA M n q → A q := by
  intro q hq
  rcases hq with h | h
  · exact h3 q h
  · exact CC.2.2.2.2.2.2.2.2.2.1 q (Nat.le_trans h4.1 (by omega))
theorem g_pre {p : Program} {e : Env} {s : State} {m : MethodId} {args : Array Value} {meth : Method} {c : Code} {H : Heap} {locs : List Loc} {av : List Value} (CC : Ct Γ μ A p e s m args meth c) (h1 : HH Γ.2.1 cls M H) (h2 : H.size = n) (h3 : ∀ q, M q ≠ none → A q) (h4 : va_S A s.heap H locs) : ∀ U : State, U.heap = H → s.WarmedH U.vm → PC Γ av M n av.toArray U := by
  intro U hU hW
  obtain ⟨c1, c2, c3, c4, c5, c6, c7, c8, c9, c10, c11, c12, c13⟩ := id CC
  exact ⟨rfl, by rw [hU]; exact h1, by rw [hU]; exact h2, va_K.moved hW.alike c9, by rw [hU]; exact ZL.to hW c11 h4.2.1 (g_sub CC h2 h3 h4), c12⟩
theorem g_back {p : Program} {e : Env} {s : State} {m : MethodId} {args : Array Value} {below : List Frame} {meth : Method} {c : Code} {H : Heap} {locs : List Loc} {ls : Array Slot} {mc ms : Nat} {st0 : List Value} {a : Array Value}
    (CC : Ct Γ μ A p e s m args meth c) (h2 : H.size = n) (h3 : ∀ q, M q ≠ none → A q) (h4 : va_S A s.heap H locs) (h5 : LV ls μ.2.2.1 vs)
    (hr : va_Run p Γ.1 e μ.2.2.2.2.2.1 s m args below meth c H locs ce sl mc ms (F0 m pc ls st0) st (QC Γ (AA M n) Q' a) (AA M n))
    (k : ∀ (v : Option Value) (M' : HM) (n' : Nat), Q' v M' n' → n ≤ n' → (∀ q, M' q ≠ none → AA M n q) → G Γ μ A E (ce + mc) (sl + ms) M' n' (pc + 3) vs (v.toList ++ st)) :
    W p Γ.1 e μ.2.2.2.2.2.1 s m args below meth c H locs ce sl (E below args s) (F0 m pc ls st0) := by
  intro T hT X9
  obtain ⟨v, st₀, t, T', L, h0, X1, hL, e1, e2, ⟨⟨v', M', ho, hH, hD, hq⟩, hF⟩, stp⟩ := hr T hT X9
  have hv : v = v' := Outcome.returned.inj ho
  subst hv
  have hsub := g_sub CC h2 h3 h4
  obtain ⟨k1, k2, k3⟩ := vx_keep h0 e1 h4 (fun q _ h => hsub q h) hsub hL hF
  obtain ⟨t2, a1, b1⟩ := k v M' t.heap.size hq (by rw [← e1, ← h2]; exact k1) hD p e s m args below meth c T'.heap (locs ++ L) ls CC (by rw [e1]; exact hH) (by rw [e1]) (fun q hq => hsub q (hD q hq)) k3 h5 T' rfl X1
  exact ⟨t2, stp t2 a1, b1⟩

theorem g_callV0 {index b ci : Nat} {fs : List Value} {r : vw_C} (hw : CW μ.1 index y ν 0) (hi : Cond.instanceMethod y ∈ TB) (hs : Cond.selects y.cls y y ∈ TB) (hC : CT Γ ν y (.ref b :: []) M n Q') (hd : decode μ.2.1 pc = .ok (.invokevirtual index, 3)) (hM : M b = some (.inr (ci, fs))) (hc : cls[ci]? = some r) (hrc : r.1 = y.cls) (hR : RM μ ν ce sl) (hcat : (st.map fun v => v.category).sum ≤ 8) (k : ∀ (v : Option Value) (M' : HM) (n' : Nat), Q' v M' n' → n ≤ n' → (∀ q, M' q ≠ none → AA M n q) → G Γ μ A E (ce + ν.2.2.2.2.2.1.cells) (sl + ν.2.2.2.2.2.1.slots) M' n' (pc + 3) vs (v.toList ++ st)) : G Γ μ A E ce sl M n pc vs (.ref b :: st) := by
  intro p e s m args below meth c H locs ls CC h1 h2 h3 h4 h5
  obtain ⟨c1, c2, c3, c4, c5, c6, c7, c8, c9, c10, c11, c12, c13⟩ := id CC

  refine g_back (a := (Value.ref b :: []).toArray) CC h2 h3 h4 h5 (va_runV (As := []) (rest := st) ⟨c1, c2, c3, c4, c5⟩ hC (cwV 0 c5 (good_TB (fun w hw9 => ?_)) rfl rfl rfl ⟨rfl, hw.2.2.2⟩ hR.1) ⟨pc_blind, ?_, g_pre CC h1 h2 h3 h4⟩ rfl rfl h5.1 rfl (lv_room hcat) hd hR.2) k
  · rcases List.mem_append.mp hw9 with h | h
    · simp only [List.mem_cons, List.not_mem_nil, or_false] at h
      rcases h with rfl | rfl | rfl | rfl
      · exact hw.1
      · exact hi
      · exact hs
      · exact hw.2.1
    · exact cw_in hw.2.2.1 w h
  · have h9 := va_recv c9 (h1.one hM) hc (q0 := 0) rfl
    rw [hrc] at h9
    exact h9
theorem g_callV1 {index b ci : Nat} {fs : List Value} {r : vw_C} {x1 : Value} (hw : CW μ.1 index y ν 1) (hi : Cond.instanceMethod y ∈ TB) (hs : Cond.selects y.cls y y ∈ TB) (hC : CT Γ ν y (.ref b :: [x1]) M n Q') (hd : decode μ.2.1 pc = .ok (.invokevirtual index, 3)) (hM : M b = some (.inr (ci, fs))) (hc : cls[ci]? = some r) (hrc : r.1 = y.cls) (hR : RM μ ν ce sl) (hcat : (st.map fun v => v.category).sum ≤ 8) (k : ∀ (v : Option Value) (M' : HM) (n' : Nat), Q' v M' n' → n ≤ n' → (∀ q, M' q ≠ none → AA M n q) → G Γ μ A E (ce + ν.2.2.2.2.2.1.cells) (sl + ν.2.2.2.2.2.1.slots) M' n' (pc + 3) vs (v.toList ++ st)) : G Γ μ A E ce sl M n pc vs (x1 :: .ref b :: st) := by
  intro p e s m args below meth c H locs ls CC h1 h2 h3 h4 h5
  obtain ⟨c1, c2, c3, c4, c5, c6, c7, c8, c9, c10, c11, c12, c13⟩ := id CC

  refine g_back (a := (Value.ref b :: [x1]).toArray) CC h2 h3 h4 h5 (va_runV (As := [x1]) (rest := st) ⟨c1, c2, c3, c4, c5⟩ hC (cwV 1 c5 (good_TB (fun w hw9 => ?_)) rfl rfl rfl ⟨rfl, hw.2.2.2⟩ hR.1) ⟨pc_blind, ?_, g_pre CC h1 h2 h3 h4⟩ rfl rfl h5.1 rfl (lv_room hcat) hd hR.2) k
  · rcases List.mem_append.mp hw9 with h | h
    · simp only [List.mem_cons, List.not_mem_nil, or_false] at h
      rcases h with rfl | rfl | rfl | rfl
      · exact hw.1
      · exact hi
      · exact hs
      · exact hw.2.1
    · exact cw_in hw.2.2.1 w h
  · have h9 := va_recv c9 (h1.one hM) hc (q0 := 0) rfl
    rw [hrc] at h9
    exact h9
theorem g_callV2 {index b ci : Nat} {fs : List Value} {r : vw_C} {x1 x2 : Value} (hw : CW μ.1 index y ν 2) (hi : Cond.instanceMethod y ∈ TB) (hs : Cond.selects y.cls y y ∈ TB) (hC : CT Γ ν y (.ref b :: [x1, x2]) M n Q') (hd : decode μ.2.1 pc = .ok (.invokevirtual index, 3)) (hM : M b = some (.inr (ci, fs))) (hc : cls[ci]? = some r) (hrc : r.1 = y.cls) (hR : RM μ ν ce sl) (hcat : (st.map fun v => v.category).sum ≤ 8) (k : ∀ (v : Option Value) (M' : HM) (n' : Nat), Q' v M' n' → n ≤ n' → (∀ q, M' q ≠ none → AA M n q) → G Γ μ A E (ce + ν.2.2.2.2.2.1.cells) (sl + ν.2.2.2.2.2.1.slots) M' n' (pc + 3) vs (v.toList ++ st)) : G Γ μ A E ce sl M n pc vs (x2 :: x1 :: .ref b :: st) := by
  intro p e s m args below meth c H locs ls CC h1 h2 h3 h4 h5
  obtain ⟨c1, c2, c3, c4, c5, c6, c7, c8, c9, c10, c11, c12, c13⟩ := id CC

  refine g_back (a := (Value.ref b :: [x1, x2]).toArray) CC h2 h3 h4 h5 (va_runV (As := [x1, x2]) (rest := st) ⟨c1, c2, c3, c4, c5⟩ hC (cwV 2 c5 (good_TB (fun w hw9 => ?_)) rfl rfl rfl ⟨rfl, hw.2.2.2⟩ hR.1) ⟨pc_blind, ?_, g_pre CC h1 h2 h3 h4⟩ rfl rfl h5.1 rfl (lv_room hcat) hd hR.2) k
  · rcases List.mem_append.mp hw9 with h | h
    · simp only [List.mem_cons, List.not_mem_nil, or_false] at h
      rcases h with rfl | rfl | rfl | rfl
      · exact hw.1
      · exact hi
      · exact hs
      · exact hw.2.1
    · exact cw_in hw.2.2.1 w h
  · have h9 := va_recv c9 (h1.one hM) hc (q0 := 0) rfl
    rw [hrc] at h9
    exact h9
theorem g_callV3 {index b ci : Nat} {fs : List Value} {r : vw_C} {x1 x2 x3 : Value} (hw : CW μ.1 index y ν 3) (hi : Cond.instanceMethod y ∈ TB) (hs : Cond.selects y.cls y y ∈ TB) (hC : CT Γ ν y (.ref b :: [x1, x2, x3]) M n Q') (hd : decode μ.2.1 pc = .ok (.invokevirtual index, 3)) (hM : M b = some (.inr (ci, fs))) (hc : cls[ci]? = some r) (hrc : r.1 = y.cls) (hR : RM μ ν ce sl) (hcat : (st.map fun v => v.category).sum ≤ 8) (k : ∀ (v : Option Value) (M' : HM) (n' : Nat), Q' v M' n' → n ≤ n' → (∀ q, M' q ≠ none → AA M n q) → G Γ μ A E (ce + ν.2.2.2.2.2.1.cells) (sl + ν.2.2.2.2.2.1.slots) M' n' (pc + 3) vs (v.toList ++ st)) : G Γ μ A E ce sl M n pc vs (x3 :: x2 :: x1 :: .ref b :: st) := by
  intro p e s m args below meth c H locs ls CC h1 h2 h3 h4 h5
  obtain ⟨c1, c2, c3, c4, c5, c6, c7, c8, c9, c10, c11, c12, c13⟩ := id CC

  refine g_back (a := (Value.ref b :: [x1, x2, x3]).toArray) CC h2 h3 h4 h5 (va_runV (As := [x1, x2, x3]) (rest := st) ⟨c1, c2, c3, c4, c5⟩ hC (cwV 3 c5 (good_TB (fun w hw9 => ?_)) rfl rfl rfl ⟨rfl, hw.2.2.2⟩ hR.1) ⟨pc_blind, ?_, g_pre CC h1 h2 h3 h4⟩ rfl rfl h5.1 rfl (lv_room hcat) hd hR.2) k
  · rcases List.mem_append.mp hw9 with h | h
    · simp only [List.mem_cons, List.not_mem_nil, or_false] at h
      rcases h with rfl | rfl | rfl | rfl
      · exact hw.1
      · exact hi
      · exact hs
      · exact hw.2.1
    · exact cw_in hw.2.2.1 w h
  · have h9 := va_recv c9 (h1.one hM) hc (q0 := 0) rfl
    rw [hrc] at h9
    exact h9
theorem g_callVN0 {index b ci : Nat} {fs : List Value} {r : vw_C} (hw : CWN μ.1 index y ν 0) (hi : Cond.instanceMethod y ∈ TB) (hs : Cond.selects y.cls y y ∈ TB) (hC : CT Γ ν y (.ref b :: []) M n Q') (hd : decode μ.2.1 pc = .ok (.invokevirtual index, 3)) (hM : M b = some (.inr (ci, fs))) (hc : cls[ci]? = some r) (hrc : r.1 = y.cls) (hR : RM μ ν ce sl) (hcat : (st.map fun v => v.category).sum ≤ 8) (k : ∀ (v : Option Value) (M' : HM) (n' : Nat), Q' v M' n' → n ≤ n' → (∀ q, M' q ≠ none → AA M n q) → G Γ μ A E (ce + ν.2.2.2.2.2.1.cells) (sl + ν.2.2.2.2.2.1.slots) M' n' (pc + 3) vs (v.toList ++ st)) : G Γ μ A E ce sl M n pc vs (.ref b :: st) := by
  intro p e s m args below meth c H locs ls CC h1 h2 h3 h4 h5
  obtain ⟨c1, c2, c3, c4, c5, c6, c7, c8, c9, c10, c11, c12, c13⟩ := id CC

  obtain ⟨⟨host, hn9⟩, hini, hcd, hdd⟩ := hw
  refine g_back (a := (Value.ref b :: []).toArray) CC h2 h3 h4 h5 (va_runVN (C := y.cls) (As := []) (rest := st) ⟨c1, c2, c3, c4, c5⟩ hC ⟨va_cnB 0 c5 (good_TB (cw_in hcd)) rfl rfl rfl (va_Nw.of rfl (c11.nb (args := #[]) hn9)) (c5 _ hini) hdd hR.1, c5 _ hi, c5 _ hs⟩ ⟨pc_blind, ?_, g_pre CC h1 h2 h3 h4⟩ rfl rfl h5.1 rfl (lv_room hcat) hd hR.2) k
  have h9 := va_recv c9 (h1.one hM) hc (q0 := 0) rfl
  rw [hrc] at h9
  exact h9
theorem g_callVN1 {index b ci : Nat} {fs : List Value} {r : vw_C} {x1 : Value} (hw : CWN μ.1 index y ν 1) (hi : Cond.instanceMethod y ∈ TB) (hs : Cond.selects y.cls y y ∈ TB) (hC : CT Γ ν y (.ref b :: [x1]) M n Q') (hd : decode μ.2.1 pc = .ok (.invokevirtual index, 3)) (hM : M b = some (.inr (ci, fs))) (hc : cls[ci]? = some r) (hrc : r.1 = y.cls) (hR : RM μ ν ce sl) (hcat : (st.map fun v => v.category).sum ≤ 8) (k : ∀ (v : Option Value) (M' : HM) (n' : Nat), Q' v M' n' → n ≤ n' → (∀ q, M' q ≠ none → AA M n q) → G Γ μ A E (ce + ν.2.2.2.2.2.1.cells) (sl + ν.2.2.2.2.2.1.slots) M' n' (pc + 3) vs (v.toList ++ st)) : G Γ μ A E ce sl M n pc vs (x1 :: .ref b :: st) := by
  intro p e s m args below meth c H locs ls CC h1 h2 h3 h4 h5
  obtain ⟨c1, c2, c3, c4, c5, c6, c7, c8, c9, c10, c11, c12, c13⟩ := id CC

  obtain ⟨⟨host, hn9⟩, hini, hcd, hdd⟩ := hw
  refine g_back (a := (Value.ref b :: [x1]).toArray) CC h2 h3 h4 h5 (va_runVN (C := y.cls) (As := [x1]) (rest := st) ⟨c1, c2, c3, c4, c5⟩ hC ⟨va_cnB 1 c5 (good_TB (cw_in hcd)) rfl rfl rfl (va_Nw.of rfl (c11.nb (args := #[]) hn9)) (c5 _ hini) hdd hR.1, c5 _ hi, c5 _ hs⟩ ⟨pc_blind, ?_, g_pre CC h1 h2 h3 h4⟩ rfl rfl h5.1 rfl (lv_room hcat) hd hR.2) k
  have h9 := va_recv c9 (h1.one hM) hc (q0 := 0) rfl
  rw [hrc] at h9
  exact h9
theorem g_callVN2 {index b ci : Nat} {fs : List Value} {r : vw_C} {x1 x2 : Value} (hw : CWN μ.1 index y ν 2) (hi : Cond.instanceMethod y ∈ TB) (hs : Cond.selects y.cls y y ∈ TB) (hC : CT Γ ν y (.ref b :: [x1, x2]) M n Q') (hd : decode μ.2.1 pc = .ok (.invokevirtual index, 3)) (hM : M b = some (.inr (ci, fs))) (hc : cls[ci]? = some r) (hrc : r.1 = y.cls) (hR : RM μ ν ce sl) (hcat : (st.map fun v => v.category).sum ≤ 8) (k : ∀ (v : Option Value) (M' : HM) (n' : Nat), Q' v M' n' → n ≤ n' → (∀ q, M' q ≠ none → AA M n q) → G Γ μ A E (ce + ν.2.2.2.2.2.1.cells) (sl + ν.2.2.2.2.2.1.slots) M' n' (pc + 3) vs (v.toList ++ st)) : G Γ μ A E ce sl M n pc vs (x2 :: x1 :: .ref b :: st) := by
  intro p e s m args below meth c H locs ls CC h1 h2 h3 h4 h5
  obtain ⟨c1, c2, c3, c4, c5, c6, c7, c8, c9, c10, c11, c12, c13⟩ := id CC

  obtain ⟨⟨host, hn9⟩, hini, hcd, hdd⟩ := hw
  refine g_back (a := (Value.ref b :: [x1, x2]).toArray) CC h2 h3 h4 h5 (va_runVN (C := y.cls) (As := [x1, x2]) (rest := st) ⟨c1, c2, c3, c4, c5⟩ hC ⟨va_cnB 2 c5 (good_TB (cw_in hcd)) rfl rfl rfl (va_Nw.of rfl (c11.nb (args := #[]) hn9)) (c5 _ hini) hdd hR.1, c5 _ hi, c5 _ hs⟩ ⟨pc_blind, ?_, g_pre CC h1 h2 h3 h4⟩ rfl rfl h5.1 rfl (lv_room hcat) hd hR.2) k
  have h9 := va_recv c9 (h1.one hM) hc (q0 := 0) rfl
  rw [hrc] at h9
  exact h9
theorem g_callS0 {index : Nat} (hw : CW μ.1 index y ν 0) (hs : Cond.static y ∈ TB) (hC : CT Γ ν y [] M n Q') (hd : decode μ.2.1 pc = .ok (.invokestatic index, 3)) (hR : RM μ ν ce sl) (hcat : (st.map fun v => v.category).sum ≤ 8) (k : ∀ (v : Option Value) (M' : HM) (n' : Nat), Q' v M' n' → n ≤ n' → (∀ q, M' q ≠ none → AA M n q) → G Γ μ A E (ce + ν.2.2.2.2.2.1.cells) (sl + ν.2.2.2.2.2.1.slots) M' n' (pc + 3) vs (v.toList ++ st)) : G Γ μ A E ce sl M n pc vs (st) := by
  intro p e s m args below meth c H locs ls CC h1 h2 h3 h4 h5
  obtain ⟨c1, c2, c3, c4, c5, c6, c7, c8, c9, c10, c11, c12, c13⟩ := id CC
  exact g_back (a := [].toArray) CC h2 h3 h4 h5 (va_runS (As := []) (rest := st) ⟨c1, c2, c3, c4, c5⟩ hC ⟨callB_of 0 c5 (good_TB (cw_in hw.2.2.1)) rfl rfl rfl (c5 _ hw.2.1) (c5 _ hw.1) hw.2.2.2 hR.1, c5 _ hs⟩ ⟨pc_blind, g_pre CC h1 h2 h3 h4⟩ rfl rfl h5.1 rfl (lv_room hcat) hd hR.2) k
theorem g_callS1 {index : Nat} {x1 : Value} (hw : CW μ.1 index y ν 1) (hs : Cond.static y ∈ TB) (hC : CT Γ ν y [x1] M n Q') (hd : decode μ.2.1 pc = .ok (.invokestatic index, 3)) (hR : RM μ ν ce sl) (hcat : (st.map fun v => v.category).sum ≤ 8) (k : ∀ (v : Option Value) (M' : HM) (n' : Nat), Q' v M' n' → n ≤ n' → (∀ q, M' q ≠ none → AA M n q) → G Γ μ A E (ce + ν.2.2.2.2.2.1.cells) (sl + ν.2.2.2.2.2.1.slots) M' n' (pc + 3) vs (v.toList ++ st)) : G Γ μ A E ce sl M n pc vs (x1 :: st) := by
  intro p e s m args below meth c H locs ls CC h1 h2 h3 h4 h5
  obtain ⟨c1, c2, c3, c4, c5, c6, c7, c8, c9, c10, c11, c12, c13⟩ := id CC
  exact g_back (a := [x1].toArray) CC h2 h3 h4 h5 (va_runS (As := [x1]) (rest := st) ⟨c1, c2, c3, c4, c5⟩ hC ⟨callB_of 1 c5 (good_TB (cw_in hw.2.2.1)) rfl rfl rfl (c5 _ hw.2.1) (c5 _ hw.1) hw.2.2.2 hR.1, c5 _ hs⟩ ⟨pc_blind, g_pre CC h1 h2 h3 h4⟩ rfl rfl h5.1 rfl (lv_room hcat) hd hR.2) k
theorem g_callS2 {index : Nat} {x1 x2 : Value} (hw : CW μ.1 index y ν 2) (hs : Cond.static y ∈ TB) (hC : CT Γ ν y [x1, x2] M n Q') (hd : decode μ.2.1 pc = .ok (.invokestatic index, 3)) (hR : RM μ ν ce sl) (hcat : (st.map fun v => v.category).sum ≤ 8) (k : ∀ (v : Option Value) (M' : HM) (n' : Nat), Q' v M' n' → n ≤ n' → (∀ q, M' q ≠ none → AA M n q) → G Γ μ A E (ce + ν.2.2.2.2.2.1.cells) (sl + ν.2.2.2.2.2.1.slots) M' n' (pc + 3) vs (v.toList ++ st)) : G Γ μ A E ce sl M n pc vs (x2 :: x1 :: st) := by
  intro p e s m args below meth c H locs ls CC h1 h2 h3 h4 h5
  obtain ⟨c1, c2, c3, c4, c5, c6, c7, c8, c9, c10, c11, c12, c13⟩ := id CC
  exact g_back (a := [x1, x2].toArray) CC h2 h3 h4 h5 (va_runS (As := [x1, x2]) (rest := st) ⟨c1, c2, c3, c4, c5⟩ hC ⟨callB_of 2 c5 (good_TB (cw_in hw.2.2.1)) rfl rfl rfl (c5 _ hw.2.1) (c5 _ hw.1) hw.2.2.2 hR.1, c5 _ hs⟩ ⟨pc_blind, g_pre CC h1 h2 h3 h4⟩ rfl rfl h5.1 rfl (lv_room hcat) hd hR.2) k
theorem g_callS3 {index : Nat} {x1 x2 x3 : Value} (hw : CW μ.1 index y ν 3) (hs : Cond.static y ∈ TB) (hC : CT Γ ν y [x1, x2, x3] M n Q') (hd : decode μ.2.1 pc = .ok (.invokestatic index, 3)) (hR : RM μ ν ce sl) (hcat : (st.map fun v => v.category).sum ≤ 8) (k : ∀ (v : Option Value) (M' : HM) (n' : Nat), Q' v M' n' → n ≤ n' → (∀ q, M' q ≠ none → AA M n q) → G Γ μ A E (ce + ν.2.2.2.2.2.1.cells) (sl + ν.2.2.2.2.2.1.slots) M' n' (pc + 3) vs (v.toList ++ st)) : G Γ μ A E ce sl M n pc vs (x3 :: x2 :: x1 :: st) := by
  intro p e s m args below meth c H locs ls CC h1 h2 h3 h4 h5
  obtain ⟨c1, c2, c3, c4, c5, c6, c7, c8, c9, c10, c11, c12, c13⟩ := id CC
  exact g_back (a := [x1, x2, x3].toArray) CC h2 h3 h4 h5 (va_runS (As := [x1, x2, x3]) (rest := st) ⟨c1, c2, c3, c4, c5⟩ hC ⟨callB_of 3 c5 (good_TB (cw_in hw.2.2.1)) rfl rfl rfl (c5 _ hw.2.1) (c5 _ hw.1) hw.2.2.2 hR.1, c5 _ hs⟩ ⟨pc_blind, g_pre CC h1 h2 h3 h4⟩ rfl rfl h5.1 rfl (lv_room hcat) hd hR.2) k
theorem g_callI0 {index b : Nat} (hw : CW μ.1 index y ν 0) (hi : Cond.instanceMethod y ∈ TB) (hin : y.name = "<init>") (hrt : ν.2.2.2.1 = none) (hC : CT Γ ν y (.ref b :: []) M n Q') (hd : decode μ.2.1 pc = .ok (.invokespecial index, 3)) (hR : RM μ ν ce sl) (hcat : (st.map fun v => v.category).sum ≤ 8) (k : ∀ (v : Option Value) (M' : HM) (n' : Nat), Q' v M' n' → n ≤ n' → (∀ q, M' q ≠ none → AA M n q) → G Γ μ A E (ce + ν.2.2.2.2.2.1.cells) (sl + ν.2.2.2.2.2.1.slots) M' n' (pc + 3) vs (v.toList ++ st)) : G Γ μ A E ce sl M n pc vs (.ref b :: st) := by
  intro p e s m args below meth c H locs ls CC h1 h2 h3 h4 h5
  obtain ⟨c1, c2, c3, c4, c5, c6, c7, c8, c9, c10, c11, c12, c13⟩ := id CC
  unfold CT at hC
  rw [hrt] at hC

  have hcd := hw.2.2.1
  have hcd9 := cw_in hcd
  rw [hrt] at hcd9
  exact g_back (a := (Value.ref b :: []).toArray) CC h2 h3 h4 h5 (va_runI (As := []) (rest := st) ⟨c1, c2, c3, c4, c5⟩ hC (cwI 0 c5 (good_TB hcd9) rfl rfl rfl (c5 _ hw.2.1) (c5 _ hw.1) (c5 _ hi) hin hw.2.2.2 hR.1) ⟨pc_blind, g_pre CC h1 h2 h3 h4⟩ rfl rfl h5.1 rfl (lv_room hcat) hd hR.2) k
theorem g_callI1 {index b : Nat} {x1 : Value} (hw : CW μ.1 index y ν 1) (hi : Cond.instanceMethod y ∈ TB) (hin : y.name = "<init>") (hrt : ν.2.2.2.1 = none) (hC : CT Γ ν y (.ref b :: [x1]) M n Q') (hd : decode μ.2.1 pc = .ok (.invokespecial index, 3)) (hR : RM μ ν ce sl) (hcat : (st.map fun v => v.category).sum ≤ 8) (k : ∀ (v : Option Value) (M' : HM) (n' : Nat), Q' v M' n' → n ≤ n' → (∀ q, M' q ≠ none → AA M n q) → G Γ μ A E (ce + ν.2.2.2.2.2.1.cells) (sl + ν.2.2.2.2.2.1.slots) M' n' (pc + 3) vs (v.toList ++ st)) : G Γ μ A E ce sl M n pc vs (x1 :: .ref b :: st) := by
  intro p e s m args below meth c H locs ls CC h1 h2 h3 h4 h5
  obtain ⟨c1, c2, c3, c4, c5, c6, c7, c8, c9, c10, c11, c12, c13⟩ := id CC
  unfold CT at hC
  rw [hrt] at hC

  have hcd := hw.2.2.1
  have hcd9 := cw_in hcd
  rw [hrt] at hcd9
  exact g_back (a := (Value.ref b :: [x1]).toArray) CC h2 h3 h4 h5 (va_runI (As := [x1]) (rest := st) ⟨c1, c2, c3, c4, c5⟩ hC (cwI 1 c5 (good_TB hcd9) rfl rfl rfl (c5 _ hw.2.1) (c5 _ hw.1) (c5 _ hi) hin hw.2.2.2 hR.1) ⟨pc_blind, g_pre CC h1 h2 h3 h4⟩ rfl rfl h5.1 rfl (lv_room hcat) hd hR.2) k
theorem g_callIN0 {index b : Nat} (hw : CWN μ.1 index y ν 0) (hi : Cond.instanceMethod y ∈ TB) (hin : y.name = "<init>") (hrt : ν.2.2.2.1 = none) (hC : CT Γ ν y (.ref b :: []) M n Q') (hd : decode μ.2.1 pc = .ok (.invokespecial index, 3)) (hR : RM μ ν ce sl) (hcat : (st.map fun v => v.category).sum ≤ 8) (k : ∀ (v : Option Value) (M' : HM) (n' : Nat), Q' v M' n' → n ≤ n' → (∀ q, M' q ≠ none → AA M n q) → G Γ μ A E (ce + ν.2.2.2.2.2.1.cells) (sl + ν.2.2.2.2.2.1.slots) M' n' (pc + 3) vs (v.toList ++ st)) : G Γ μ A E ce sl M n pc vs (.ref b :: st) := by
  intro p e s m args below meth c H locs ls CC h1 h2 h3 h4 h5
  obtain ⟨c1, c2, c3, c4, c5, c6, c7, c8, c9, c10, c11, c12, c13⟩ := id CC
  unfold CT at hC
  rw [hrt] at hC

  obtain ⟨⟨host, hn9⟩, hini, hcd, hdd⟩ := hw
  have hcd9 := cw_in hcd
  rw [hrt] at hcd9
  exact g_back (a := (Value.ref b :: []).toArray) CC h2 h3 h4 h5 (va_runIN (As := []) (rest := st) ⟨c1, c2, c3, c4, c5⟩ hC ⟨va_cnB 0 c5 (good_TB hcd9) rfl rfl rfl (va_Nw.of rfl (c11.nb (args := #[]) hn9)) (c5 _ hini) hdd hR.1, hin, c5 _ hi⟩ ⟨pc_blind, g_pre CC h1 h2 h3 h4⟩ rfl rfl h5.1 rfl (lv_room hcat) hd hR.2) k
theorem g_callIN1 {index b : Nat} {x1 : Value} (hw : CWN μ.1 index y ν 1) (hi : Cond.instanceMethod y ∈ TB) (hin : y.name = "<init>") (hrt : ν.2.2.2.1 = none) (hC : CT Γ ν y (.ref b :: [x1]) M n Q') (hd : decode μ.2.1 pc = .ok (.invokespecial index, 3)) (hR : RM μ ν ce sl) (hcat : (st.map fun v => v.category).sum ≤ 8) (k : ∀ (v : Option Value) (M' : HM) (n' : Nat), Q' v M' n' → n ≤ n' → (∀ q, M' q ≠ none → AA M n q) → G Γ μ A E (ce + ν.2.2.2.2.2.1.cells) (sl + ν.2.2.2.2.2.1.slots) M' n' (pc + 3) vs (v.toList ++ st)) : G Γ μ A E ce sl M n pc vs (x1 :: .ref b :: st) := by
  intro p e s m args below meth c H locs ls CC h1 h2 h3 h4 h5
  obtain ⟨c1, c2, c3, c4, c5, c6, c7, c8, c9, c10, c11, c12, c13⟩ := id CC
  unfold CT at hC
  rw [hrt] at hC

  obtain ⟨⟨host, hn9⟩, hini, hcd, hdd⟩ := hw
  have hcd9 := cw_in hcd
  rw [hrt] at hcd9
  exact g_back (a := (Value.ref b :: [x1]).toArray) CC h2 h3 h4 h5 (va_runIN (As := [x1]) (rest := st) ⟨c1, c2, c3, c4, c5⟩ hC ⟨va_cnB 1 c5 (good_TB hcd9) rfl rfl rfl (va_Nw.of rfl (c11.nb (args := #[]) hn9)) (c5 _ hini) hdd hR.1, hin, c5 _ hi⟩ ⟨pc_blind, g_pre CC h1 h2 h3 h4⟩ rfl rfl h5.1 rfl (lv_room hcat) hd hR.2) k
theorem g_backX {p : Program} {e : Env} {s : State} {m : MethodId} {args : Array Value} {below : List Frame} {meth : Method} {c : Code} {H : Heap} {locs : List Loc} {ls : Array Slot} {mc ms : Nat} {st0 : List Value} {a : Array Value}
    (CC : Ct Γ μ A p e s m args meth c) (h2 : H.size = n) (h3 : ∀ q, M q ≠ none → A q) (h4 : va_S A s.heap H locs) (h5 : LV ls μ.2.2.1 vs)
    (hr : vx_Run p Γ.1 e μ.2.2.2.2.2.1 s m args below meth c H locs ce sl mc ms (F0 m pc ls st0) st (QC Γ (AA M n) Q' a) (XQ Γ (AA M n) X') (AA M n))
    (kx : ∀ (C : String) (M' : HM) (q : Addr) (cell : Cell) (H1 : Heap) (locs1 : List Loc), X' C M' H1.size → n ≤ H1.size → (∀ q, M' q ≠ none → AA M n q) → HH Γ.2.1 cls M' H1 → (∀ q, M' q ≠ none → A q) → va_S A s.heap H1 locs1 → H1[q]? = some cell → cell.vm = .none → s.vm.findClass C = some cell.cls → vx_W p Γ.1 e μ.2.2.2.2.2.1 s m args below meth c H1 locs1 (ce + mc) (sl + ms) (E below args s) (F0 m pc ls st) q)
    (k : ∀ (v : Option Value) (M' : HM) (n' : Nat), Q' v M' n' → n ≤ n' → (∀ q, M' q ≠ none → AA M n q) → G Γ μ A E (ce + mc) (sl + ms) M' n' (pc + 3) vs (v.toList ++ st)) :
    W p Γ.1 e μ.2.2.2.2.2.1 s m args below meth c H locs ce sl (E below args s) (F0 m pc ls st0) := by
  intro T hT X9
  have hsub := g_sub CC h2 h3 h4
  rcases hr T hT X9 with ⟨v, st₀, t, T', L, h0, X1, hL, e1, e2, ⟨⟨v', M', ho, hH, hD, hq⟩, hF⟩, stp⟩ | ⟨q, st₀, t, T', L, C, cell, h0, X1, hL, e1, e2, ⟨⟨M', hH, hD, hx⟩, hF⟩, hce, hcv, hcl, stp⟩
  · have hv : v = v' := Outcome.returned.inj ho
    subst hv
    obtain ⟨k1, k2, k3⟩ := vx_keep h0 e1 h4 (fun q _ h => hsub q h) hsub hL hF
    obtain ⟨t2, a1, b1⟩ := k v M' t.heap.size hq (by rw [← e1, ← h2]; exact k1) hD p e s m args below meth c T'.heap (locs ++ L) ls CC (by rw [e1]; exact hH) (by rw [e1]) (fun q hq => hsub q (hD q hq)) k3 h5 T' rfl X1
    exact ⟨t2, stp t2 a1, b1⟩
  · obtain ⟨k1, k2, k3⟩ := vx_keep h0 e1 h4 (fun q _ h => hsub q h) hsub hL hF
    obtain ⟨t2, a1, b1⟩ := kx C M' q cell T'.heap (locs ++ L) (by rw [e1]; exact hx) (by rw [← h2]; exact k1) hD (by rw [e1]; exact hH) (fun q hq => hsub q (hD q hq)) k3 (by rw [e1]; exact hce) hcv hcl T' rfl X1
    exact ⟨t2, stp.trans a1, b1⟩
/-- not caught in this method -/
theorem g_out {p : Program} {e : Env} {s : State} {m : MethodId} {args : Array Value} {below : List Frame} {meth : Method} {c : Code} {H1 : Heap} {locs1 : List Loc} {ls : Array Slot} {C : String} {M' : HM} {q : Addr} {cell : Cell}
    (CC : Ct Γ μ A p e s m args meth c) (hhh : μ.2.2.2.2.2.2 = []) (hX : X C M' H1.size) (h1 : HH Γ.2.1 cls M' H1) (h3 : ∀ q, M' q ≠ none → A q) (h4 : va_S A s.heap H1 locs1) (hc : H1[q]? = some cell) (hv : cell.vm = .none) (hcl : s.vm.findClass C = some cell.cls) (hce : ce ≤ μ.2.2.2.2.2.1.cells) (hsl : sl ≤ μ.2.2.2.2.2.1.slots) :
    vx_W p Γ.1 e μ.2.2.2.2.2.1 s m args below meth c H1 locs1 ce sl (EX Γ μ A Q X below args s) (F0 m pc ls st) q := by
  obtain ⟨c1, c2, c3, c4, c5, c6, c7, c8, c9, c10, c11, c12, c13⟩ := id CC
  exact vx_out (E := C) (fun x hx => by rw [c13, hhh] at hx; exact nomatch hx) c7 hc hv hcl (fun t ht _ => ⟨⟨M', by rw [ht]; exact h1, h3, by rw [ht]; exact hX⟩, h4.F ht⟩) h4.2.2 hce hsl

theorem g_callVX1 {index b ci : Nat} {fs : List Value} {r : vw_C} {x1 : Value} (hw : CW μ.1 index y ν 1) (hi : Cond.instanceMethod y ∈ TB) (hs : Cond.selects y.cls y y ∈ TB) (hC : CX Γ ν y (.ref b :: [x1]) M n Q' X') (hd : decode μ.2.1 pc = .ok (.invokevirtual index, 3)) (hM : M b = some (.inr (ci, fs))) (hc : cls[ci]? = some r) (hrc : r.1 = y.cls) (hR : RM μ ν ce sl) (hcat : (st.map fun v => v.category).sum ≤ 8) (hhh : μ.2.2.2.2.2.2 = []) (kx : ∀ (C : String) (M' : HM) (n' : Nat), X' C M' n' → n ≤ n' → (∀ q, M' q ≠ none → AA M n q) → X C M' n') (k : ∀ (v : Option Value) (M' : HM) (n' : Nat), Q' v M' n' → n ≤ n' → (∀ q, M' q ≠ none → AA M n q) → G Γ μ A (EX Γ μ A Q X) (ce + ν.2.2.2.2.2.1.cells) (sl + ν.2.2.2.2.2.1.slots) M' n' (pc + 3) vs (v.toList ++ st)) : G Γ μ A (EX Γ μ A Q X) ce sl M n pc vs (x1 :: .ref b :: st) := by
  intro p e s m args below meth c H locs ls CC h1 h2 h3 h4 h5
  obtain ⟨c1, c2, c3, c4, c5, c6, c7, c8, c9, c10, c11, c12, c13⟩ := id CC
  refine g_backX (a := (Value.ref b :: [x1]).toArray) CC h2 h3 h4 h5 (vx_runV (As := [x1]) (rest := st) ⟨c1, c2, c3, c4, c5⟩ hC (cwV 1 c5 (good_TB (fun w hw9 => ?_)) rfl rfl rfl ⟨rfl, hw.2.2.2⟩ hR.1) ⟨pc_blind, ?_, g_pre CC h1 h2 h3 h4⟩ rfl rfl h5.1 rfl (lv_room hcat) hd hR.2) (fun C M' q cell H1 locs1 a1 a2 a3 a4 a5 a6 a7 a8 a9 => g_out CC hhh (kx C M' H1.size a1 a2 a3) a4 a5 a6 a7 a8 a9 hR.2.1 hR.2.2) k
  · rcases List.mem_append.mp hw9 with h | h
    · simp only [List.mem_cons, List.not_mem_nil, or_false] at h
      rcases h with rfl | rfl | rfl | rfl
      · exact hw.1
      · exact hi
      · exact hs
      · exact hw.2.1
    · exact cw_in hw.2.2.1 w h
  · have h9 := va_recv c9 (h1.one hM) hc (q0 := 0) rfl
    rw [hrc] at h9
    exact h9
theorem g_callVX2 {index b ci : Nat} {fs : List Value} {r : vw_C} {x1 x2 : Value} (hw : CW μ.1 index y ν 2) (hi : Cond.instanceMethod y ∈ TB) (hs : Cond.selects y.cls y y ∈ TB) (hC : CX Γ ν y (.ref b :: [x1, x2]) M n Q' X') (hd : decode μ.2.1 pc = .ok (.invokevirtual index, 3)) (hM : M b = some (.inr (ci, fs))) (hc : cls[ci]? = some r) (hrc : r.1 = y.cls) (hR : RM μ ν ce sl) (hcat : (st.map fun v => v.category).sum ≤ 8) (hhh : μ.2.2.2.2.2.2 = []) (kx : ∀ (C : String) (M' : HM) (n' : Nat), X' C M' n' → n ≤ n' → (∀ q, M' q ≠ none → AA M n q) → X C M' n') (k : ∀ (v : Option Value) (M' : HM) (n' : Nat), Q' v M' n' → n ≤ n' → (∀ q, M' q ≠ none → AA M n q) → G Γ μ A (EX Γ μ A Q X) (ce + ν.2.2.2.2.2.1.cells) (sl + ν.2.2.2.2.2.1.slots) M' n' (pc + 3) vs (v.toList ++ st)) : G Γ μ A (EX Γ μ A Q X) ce sl M n pc vs (x2 :: x1 :: .ref b :: st) := by
  intro p e s m args below meth c H locs ls CC h1 h2 h3 h4 h5
  obtain ⟨c1, c2, c3, c4, c5, c6, c7, c8, c9, c10, c11, c12, c13⟩ := id CC
  refine g_backX (a := (Value.ref b :: [x1, x2]).toArray) CC h2 h3 h4 h5 (vx_runV (As := [x1, x2]) (rest := st) ⟨c1, c2, c3, c4, c5⟩ hC (cwV 2 c5 (good_TB (fun w hw9 => ?_)) rfl rfl rfl ⟨rfl, hw.2.2.2⟩ hR.1) ⟨pc_blind, ?_, g_pre CC h1 h2 h3 h4⟩ rfl rfl h5.1 rfl (lv_room hcat) hd hR.2) (fun C M' q cell H1 locs1 a1 a2 a3 a4 a5 a6 a7 a8 a9 => g_out CC hhh (kx C M' H1.size a1 a2 a3) a4 a5 a6 a7 a8 a9 hR.2.1 hR.2.2) k
  · rcases List.mem_append.mp hw9 with h | h
    · simp only [List.mem_cons, List.not_mem_nil, or_false] at h
      rcases h with rfl | rfl | rfl | rfl
      · exact hw.1
      · exact hi
      · exact hs
      · exact hw.2.1
    · exact cw_in hw.2.2.1 w h
  · have h9 := va_recv c9 (h1.one hM) hc (q0 := 0) rfl
    rw [hrc] at h9
    exact h9
theorem g_callSX2 {index : Nat} {x1 x2 : Value} (hw : CW μ.1 index y ν 2) (hs : Cond.static y ∈ TB) (hC : CX Γ ν y [x1, x2] M n Q' X') (hd : decode μ.2.1 pc = .ok (.invokestatic index, 3)) (hR : RM μ ν ce sl) (hcat : (st.map fun v => v.category).sum ≤ 8) (hhh : μ.2.2.2.2.2.2 = []) (kx : ∀ (C : String) (M' : HM) (n' : Nat), X' C M' n' → n ≤ n' → (∀ q, M' q ≠ none → AA M n q) → X C M' n') (k : ∀ (v : Option Value) (M' : HM) (n' : Nat), Q' v M' n' → n ≤ n' → (∀ q, M' q ≠ none → AA M n q) → G Γ μ A (EX Γ μ A Q X) (ce + ν.2.2.2.2.2.1.cells) (sl + ν.2.2.2.2.2.1.slots) M' n' (pc + 3) vs (v.toList ++ st)) : G Γ μ A (EX Γ μ A Q X) ce sl M n pc vs (x2 :: x1 :: st) := by
  intro p e s m args below meth c H locs ls CC h1 h2 h3 h4 h5
  obtain ⟨c1, c2, c3, c4, c5, c6, c7, c8, c9, c10, c11, c12, c13⟩ := id CC
  exact g_backX (a := [x1, x2].toArray) CC h2 h3 h4 h5 (vx_runS (As := [x1, x2]) (rest := st) ⟨c1, c2, c3, c4, c5⟩ hC ⟨callB_of 2 c5 (good_TB (cw_in hw.2.2.1)) rfl rfl rfl (c5 _ hw.2.1) (c5 _ hw.1) hw.2.2.2 hR.1, c5 _ hs⟩ ⟨pc_blind, g_pre CC h1 h2 h3 h4⟩ rfl rfl h5.1 rfl (lv_room hcat) hd hR.2) (fun C M' q cell H1 locs1 a1 a2 a3 a4 a5 a6 a7 a8 a9 => g_out CC hhh (kx C M' H1.size a1 a2 a3) a4 a5 a6 a7 a8 a9 hR.2.1 hR.2.2) k
theorem g_callVC1 {index b ci : Nat} {fs : List Value} {r : vw_C} {x1 : Value} {x0 : Nat × Nat × Nat × Nat} {cn : String} (hw : CW μ.1 index y ν 1) (hi : Cond.instanceMethod y ∈ TB) (hs : Cond.selects y.cls y y ∈ TB) (hC : CX Γ ν y (.ref b :: [x1]) M n Q' X') (hd : decode μ.2.1 pc = .ok (.invokevirtual index, 3)) (hM : M b = some (.inr (ci, fs))) (hc : cls[ci]? = some r) (hrc : r.1 = y.cls) (hR : RM μ ν ce sl) (hcat : (st.map fun v => v.category).sum ≤ 8)
    (hhh : μ.2.2.2.2.2.2 = [x0]) (hcov : x0.1 ≤ pc ∧ pc < x0.2.1) (h0 : x0.2.2.2 ≠ 0) (hlk : Cond.classLink μ.1 x0.2.2.2 cn ∈ TB) (hXC : ∀ (C : String) (M' : HM) (n' : Nat), X' C M' n' → Cond.castable C cn ∈ NB)
    (kx : ∀ (C : String) (M' : HM) (n' q : Nat), X' C M' n' → n ≤ n' → (∀ q, M' q ≠ none → AA M n q) → G Γ μ A E (ce + ν.2.2.2.2.2.1.cells) (sl + ν.2.2.2.2.2.1.slots) M' n' x0.2.2.1 vs [.ref q])
    (k : ∀ (v : Option Value) (M' : HM) (n' : Nat), Q' v M' n' → n ≤ n' → (∀ q, M' q ≠ none → AA M n q) → G Γ μ A E (ce + ν.2.2.2.2.2.1.cells) (sl + ν.2.2.2.2.2.1.slots) M' n' (pc + 3) vs (v.toList ++ st)) : G Γ μ A E ce sl M n pc vs (x1 :: .ref b :: st) := by
  intro p e s m args below meth c H locs ls CC h1 h2 h3 h4 h5
  obtain ⟨c1, c2, c3, c4, c5, c6, c7, c8, c9, c10, c11, c12, c13⟩ := id CC
  refine g_backX (a := (Value.ref b :: [x1]).toArray) CC h2 h3 h4 h5 (vx_runV (As := [x1]) (rest := st) ⟨c1, c2, c3, c4, c5⟩ hC (cwV 1 c5 (good_TB (fun w hw9 => ?_)) rfl rfl rfl ⟨rfl, hw.2.2.2⟩ hR.1) ⟨pc_blind, ?_, g_pre CC h1 h2 h3 h4⟩ rfl rfl h5.1 rfl (lv_room hcat) hd hR.2) (fun C M' q cell H1 locs1 a1 a2 a3 a4 a5 a6 a7 a8 a9 => ?_) k
  · rcases List.mem_append.mp hw9 with h | h
    · simp only [List.mem_cons, List.not_mem_nil, or_false] at h
      rcases h with rfl | rfl | rfl | rfl
      · exact hw.1
      · exact hi
      · exact hs
      · exact hw.2.1
    · exact cw_in hw.2.2.1 w h
  · have h9 := va_recv c9 (h1.one hM) hc (q0 := 0) rfl
    rw [hrc] at h9
    exact h9
  · refine vx_catch (own := μ.1) (name := cn) (E := C) (ce := cell) c4 [] ⟨x0.1, x0.2.1, x0.2.2.1, x0.2.2.2⟩ [] (by rw [c13, hhh]; rfl) (fun z hz => nomatch hz) ?_ h0 (c5 _ hlk) (c11.nb (hXC C M' H1.size a1)) a7 a8 a9 (kx C M' H1.size q a1 a2 a3 p e s m args below meth c H1 locs1 ls CC a4 rfl a5 a6 h5)
    simp [covers, hcov.1, hcov.2]
theorem g_callVC2 {index b ci : Nat} {fs : List Value} {r : vw_C} {x1 x2 : Value} {x0 : Nat × Nat × Nat × Nat} {cn : String} (hw : CW μ.1 index y ν 2) (hi : Cond.instanceMethod y ∈ TB) (hs : Cond.selects y.cls y y ∈ TB) (hC : CX Γ ν y (.ref b :: [x1, x2]) M n Q' X') (hd : decode μ.2.1 pc = .ok (.invokevirtual index, 3)) (hM : M b = some (.inr (ci, fs))) (hc : cls[ci]? = some r) (hrc : r.1 = y.cls) (hR : RM μ ν ce sl) (hcat : (st.map fun v => v.category).sum ≤ 8)
    (hhh : μ.2.2.2.2.2.2 = [x0]) (hcov : x0.1 ≤ pc ∧ pc < x0.2.1) (h0 : x0.2.2.2 ≠ 0) (hlk : Cond.classLink μ.1 x0.2.2.2 cn ∈ TB) (hXC : ∀ (C : String) (M' : HM) (n' : Nat), X' C M' n' → Cond.castable C cn ∈ NB)
    (kx : ∀ (C : String) (M' : HM) (n' q : Nat), X' C M' n' → n ≤ n' → (∀ q, M' q ≠ none → AA M n q) → G Γ μ A E (ce + ν.2.2.2.2.2.1.cells) (sl + ν.2.2.2.2.2.1.slots) M' n' x0.2.2.1 vs [.ref q])
    (k : ∀ (v : Option Value) (M' : HM) (n' : Nat), Q' v M' n' → n ≤ n' → (∀ q, M' q ≠ none → AA M n q) → G Γ μ A E (ce + ν.2.2.2.2.2.1.cells) (sl + ν.2.2.2.2.2.1.slots) M' n' (pc + 3) vs (v.toList ++ st)) : G Γ μ A E ce sl M n pc vs (x2 :: x1 :: .ref b :: st) := by
  intro p e s m args below meth c H locs ls CC h1 h2 h3 h4 h5
  obtain ⟨c1, c2, c3, c4, c5, c6, c7, c8, c9, c10, c11, c12, c13⟩ := id CC
  refine g_backX (a := (Value.ref b :: [x1, x2]).toArray) CC h2 h3 h4 h5 (vx_runV (As := [x1, x2]) (rest := st) ⟨c1, c2, c3, c4, c5⟩ hC (cwV 2 c5 (good_TB (fun w hw9 => ?_)) rfl rfl rfl ⟨rfl, hw.2.2.2⟩ hR.1) ⟨pc_blind, ?_, g_pre CC h1 h2 h3 h4⟩ rfl rfl h5.1 rfl (lv_room hcat) hd hR.2) (fun C M' q cell H1 locs1 a1 a2 a3 a4 a5 a6 a7 a8 a9 => ?_) k
  · rcases List.mem_append.mp hw9 with h | h
    · simp only [List.mem_cons, List.not_mem_nil, or_false] at h
      rcases h with rfl | rfl | rfl | rfl
      · exact hw.1
      · exact hi
      · exact hs
      · exact hw.2.1
    · exact cw_in hw.2.2.1 w h
  · have h9 := va_recv c9 (h1.one hM) hc (q0 := 0) rfl
    rw [hrc] at h9
    exact h9
  · refine vx_catch (own := μ.1) (name := cn) (E := C) (ce := cell) c4 [] ⟨x0.1, x0.2.1, x0.2.2.1, x0.2.2.2⟩ [] (by rw [c13, hhh]; rfl) (fun z hz => nomatch hz) ?_ h0 (c5 _ hlk) (c11.nb (hXC C M' H1.size a1)) a7 a8 a9 (kx C M' H1.size q a1 a2 a3 p e s m args below meth c H1 locs1 ls CC a4 rfl a5 a6 h5)
    simp [covers, hcov.1, hcov.2]
/-- throw new E("text") -/
theorem g_throw {ik is ic lit : Nat} {C text : String} {names : List String} (hk : Cond.classLink μ.1 ik C ∈ TB) (hini : Cond.initialized C ∈ TB) (hcls : Bundle.fit C = true) (hnames : ∀ n ∈ names, Bundle.fit n = true) (hlit : (μ.1, is, text, lit) ∈ litL) (hat : ∀ w ∈ vx_atS μ.1 ic C names, w ∈ TB ∨ w ∈ NB) (hgood : ∀ w ∈ Cond.classLink μ.1 ik C :: Cond.initialized C :: vx_atS μ.1 ic C names, vx_ot w = true)
    (d0 : decode μ.2.1 pc = .ok (.new ik, 3)) (d3 : decode μ.2.1 (pc + 3) = .ok (.dup, 1)) (d4 : decode μ.2.1 (pc + 4) = .ok (.ldc is, 2)) (d6 : decode μ.2.1 (pc + 6) = .ok (.invokespecial ic, 3)) (d9 : decode μ.2.1 (pc + 9) = .ok (.athrow, 1)) (hhh : μ.2.2.2.2.2.2 = [])
    (hf : names.length + 3 < μ.2.2.2.2.2.1.frames) (hlo : (st.map fun v => v.category).sum + (13 * (names.length + 1) + 43) ≤ μ.2.2.2.2.2.1.locals) (hce : ce + 1 ≤ μ.2.2.2.2.2.1.cells) (hsl : sl + 6 ≤ μ.2.2.2.2.2.1.slots) (hx : ∀ n', n ≤ n' → X C M n') : G Γ μ A (EX Γ μ A Q X) ce sl M n pc vs st := by
  intro p e s m args below meth c H locs ls CC h1 h2 h3 h4 h5
  obtain ⟨c1, c2, c3, c4, c5, c6, c7, c8, c9, c10, c11, c12, c13⟩ := id CC
  subst h2
  refine vx_throwS c1 c2 c12 c4 hcls hnames (c5 _ hk) (c5 _ hini) (c11.2.1 _ hlit) (fun w hw => (hat w hw).elim (c5 w) (fun h => c11.nb h)) hgood c11.2.2.2.1 c11.2.2.2.2.1 h4 (by rw [c3]; exact h5.1) d0 d3 d4 d6 d9 (fun x hx9 => by rw [c13, hhh] at hx9; exact nomatch hx9) hf hlo hce hsl c7 (fun t ht g1 g2 => ?_) h4.2.2 hce hsl
  refine ⟨⟨M, fun a e9 ha => (h1 a e9 ha).kept (g2 a ((h1 a e9 ha).lt)), h3, hx _ g1⟩, Nat.le_trans h4.1 g1, fun q q1 q2 => (g2 q (Nat.lt_of_lt_of_le q1 h4.1)).trans (h4.2.1 q q1 q2)⟩
theorem g_ldcS {is lit : Nat} {text : String} (hlit : (μ.1, is, text, lit) ∈ litL) (hd : decode μ.2.1 pc = .ok (.ldc is, 2)) (k : G Γ μ A E ce sl M n (pc + 2) vs (.ref (Γ.2.2.2.1 lit) :: st)) : G Γ μ A E ce sl M n pc vs st := by
  intro p e s m args below meth c H locs ls CC h1 h2 h3 h4 h5
  obtain ⟨c1, c2, c3, c4, c5, c6, c7, c8, c9, c10, c11, c12, c13⟩ := id CC
  exact va_ldcS c1 c2 c4 (c11.2.1 _ hlit) hd (k p e s m args below meth c H locs ls CC h1 h2 h3 h4 h5)
theorem g_ldcI {is : Nat} {v : Int32} {z : Int} (hw : Cond.constant μ.1 is v ∈ TB) (hz : v = iI z) (hd : decode μ.2.1 pc = .ok (.ldc is, 2)) (k : G Γ μ A E ce sl M n (pc + 2) vs (.int (iI z) :: st)) : G Γ μ A E ce sl M n pc vs st := by
  intro p e s m args below meth c H locs ls CC h1 h2 h3 h4 h5
  obtain ⟨c1, c2, c3, c4, c5, c6, c7, c8, c9, c10, c11, c12, c13⟩ := id CC
  subst hz
  exact lv_ldc c1 c2 c4 (c5 _ hw) hd (k p e s m args below meth c H locs ls CC h1 h2 h3 h4 h5)
theorem g_ldcL {is : Nat} {v : Int64} (hw : Cond.constantLong μ.1 is v ∈ TB) (hd : decode μ.2.1 pc = .ok (.ldc2_w is, 3)) (k : G Γ μ A E ce sl M n (pc + 3) vs (.long v :: st)) : G Γ μ A E ce sl M n pc vs st := by
  intro p e s m args below meth c H locs ls CC h1 h2 h3 h4 h5
  obtain ⟨c1, c2, c3, c4, c5, c6, c7, c8, c9, c10, c11, c12, c13⟩ := id CC
  exact lv_ldc2 c1 c2 c4 (c5 _ hw) hd (k p e s m args below meth c H locs ls CC h1 h2 h3 h4 h5)
theorem g_lconst {i : Fin 2} {v : Int64} (hd : decode μ.2.1 pc = .ok (.lconst i, 1)) (hv : Int64.ofNat (i : Nat) = v) (k : G Γ μ A E ce sl M n (pc + 1) vs (.long v :: st)) : G Γ μ A E ce sl M n pc vs st := by
  intro p e s m args below meth c H locs ls CC h1 h2 h3 h4 h5
  obtain ⟨c1, c2, c3, c4, c5, c6, c7, c8, c9, c10, c11, c12, c13⟩ := id CC
  exact lv_lconst c1 c2 hd hv (k p e s m args below meth c H locs ls CC h1 h2 h3 h4 h5)
/-- a literal's own fields -/
theorem g_litValue {index i : Nat} (hi : i < nLit) (hl : Cond.fieldLink μ.1 index "java/lang/String" "value" "[B" ∈ TB) (hd : decode μ.2.1 pc = .ok (.getfield index, 3)) (k : G Γ μ A E ce sl M n (pc + 3) vs (.ref (Γ.2.2.2.2 i) :: st)) : G Γ μ A E ce sl M n pc vs (.ref (Γ.2.2.2.1 i) :: st) := by
  intro p e s m args below meth c H locs ls CC h1 h2 h3 h4 h5
  obtain ⟨c1, c2, c3, c4, c5, c6, c7, c8, c9, c10, c11, c12, c13⟩ := id CC
  exact vk_getf c1 c2 (c11.1.1 i hi).2.2.1 h4 c4 (c5 _ hl) (fun _ h => h) hd (k p e s m args below meth c H locs ls CC h1 h2 h3 h4 h5)
theorem g_litCoder {index i : Nat} (hi : i < nLit) (hl : Cond.fieldLink μ.1 index "java/lang/String" "coder" "B" ∈ TB) (hd : decode μ.2.1 pc = .ok (.getfield index, 3)) (k : G Γ μ A E ce sl M n (pc + 3) vs (.int (iI 0) :: st)) : G Γ μ A E ce sl M n pc vs (.ref (Γ.2.2.2.1 i) :: st) := by
  intro p e s m args below meth c H locs ls CC h1 h2 h3 h4 h5
  obtain ⟨c1, c2, c3, c4, c5, c6, c7, c8, c9, c10, c11, c12, c13⟩ := id CC
  exact vk_getf c1 c2 (c11.1.1 i hi).2.1 h4 c4 (c5 _ hl) (fun _ h => h) hd (k p e s m args below meth c H locs ls CC h1 h2 h3 h4 h5)
theorem g_litLen {i : Nat} (hi : i < nLit) (hd : decode μ.2.1 pc = .ok (.arraylength, 1)) (k : G Γ μ A E ce sl M n (pc + 1) vs (.int (iI (lenLit.getD i 0 : Nat)) :: st)) : G Γ μ A E ce sl M n pc vs (.ref (Γ.2.2.2.2 i) :: st) := by
  intro p e s m args below meth c H locs ls CC h1 h2 h3 h4 h5
  obtain ⟨c1, c2, c3, c4, c5, c6, c7, c8, c9, c10, c11, c12, c13⟩ := id CC
  exact va_tlen c1 c2 (c11.1.1 i hi).2.2.2 h4 (iI_nI _) hd (k p e s m args below meth c H locs ls CC h1 h2 h3 h4 h5)
theorem g_litAt {i : Nat} {j z : Int} (hi : i < nLit) (hd : decode μ.2.1 pc = .ok (.baload, 1)) (j1 : 0 ≤ j) (j2 : j < (lenLit.getD i 0 : Nat)) (j3 : (lenLit.getD i 0 : Nat) < 2147483648) (hz : (bytLit.getD i []).getD j.toNat 0 = iI z) (k : G Γ μ A E ce sl M n (pc + 1) vs (.int (iI z) :: st)) : G Γ μ A E ce sl M n pc vs (.int (iI j) :: .ref (Γ.2.2.2.2 i) :: st) := by
  intro p e s m args below meth c H locs ls CC h1 h2 h3 h4 h5
  obtain ⟨c1, c2, c3, c4, c5, c6, c7, c8, c9, c10, c11, c12, c13⟩ := id CC
  exact va_tb c1 c2 (c11.1.1 i hi).2.2.2 h4 (iI_in j1 j2 j3) (v := .int (iI z)) (by rw [iI_clamp j1 (by omega), hz]) hd (k p e s m args below meth c H locs ls CC h1 h2 h3 h4 h5)
theorem g_siob {index : Nat} (hl : Cond.fieldLink μ.1 index "jdk/internal/util/Preconditions" "SIOOBE_FORMATTER" "Ljava/util/function/BiFunction;" ∈ TB) (hd : decode μ.2.1 pc = .ok (.getstatic index, 3)) (kn : G Γ μ A E ce sl M n (pc + 3) vs (.null :: st)) (kr : ∀ q : Nat, G Γ μ A E ce sl M n (pc + 3) vs (.ref q :: st)) : G Γ μ A E ce sl M n pc vs st := by
  intro p e s m args below meth c H locs ls CC h1 h2 h3 h4 h5
  obtain ⟨c1, c2, c3, c4, c5, c6, c7, c8, c9, c10, c11, c12, c13⟩ := id CC
  rcases c11.2.2.2.2.2.2 with hr | ⟨q, hr⟩
  · exact va_gets (v := .null) c1 c2 hr h4 c4 (c5 _ hl) (fun _ h => h) hd (kn p e s m args below meth c H locs ls CC h1 h2 h3 h4 h5)
  · exact va_gets (v := .ref q) c1 c2 hr h4 c4 (c5 _ hl) (fun _ h => h) hd (kr q p e s m args below meth c H locs ls CC h1 h2 h3 h4 h5)
theorem g_compact {index : Nat} (hl : Cond.fieldLink μ.1 index "java/lang/String" "COMPACT_STRINGS" "Z" ∈ TB) (hd : decode μ.2.1 pc = .ok (.getstatic index, 3)) (k : G Γ μ A E ce sl M n (pc + 3) vs (.int (iI 1) :: st)) : G Γ μ A E ce sl M n pc vs st := by
  intro p e s m args below meth c H locs ls CC h1 h2 h3 h4 h5
  obtain ⟨c1, c2, c3, c4, c5, c6, c7, c8, c9, c10, c11, c12, c13⟩ := id CC
  exact va_gets c1 c2 c11.2.2.1 h4 c4 (c5 _ hl) (fun _ h => h) hd (k p e s m args below meth c H locs ls CC h1 h2 h3 h4 h5)
theorem g_callL0 {index i : Nat} (hi0 : i < nLit) (hw : CW μ.1 index y ν 0) (hi : Cond.instanceMethod y ∈ TB) (hs : Cond.selects y.cls y y ∈ TB) (hyc : y.cls = "java/lang/String") (hC : CT Γ ν y (.ref (Γ.2.2.2.1 i) :: []) M n Q') (hd : decode μ.2.1 pc = .ok (.invokevirtual index, 3)) (hR : RM μ ν ce sl) (hcat : (st.map fun v => v.category).sum ≤ 8) (k : ∀ (v : Option Value) (M' : HM) (n' : Nat), Q' v M' n' → n ≤ n' → (∀ q, M' q ≠ none → AA M n q) → G Γ μ A E (ce + ν.2.2.2.2.2.1.cells) (sl + ν.2.2.2.2.2.1.slots) M' n' (pc + 3) vs (v.toList ++ st)) : G Γ μ A E ce sl M n pc vs (.ref (Γ.2.2.2.1 i) :: st) := by
  intro p e s m args below meth c H locs ls CC h1 h2 h3 h4 h5
  obtain ⟨c1, c2, c3, c4, c5, c6, c7, c8, c9, c10, c11, c12, c13⟩ := id CC
  refine g_back (a := (Value.ref (Γ.2.2.2.1 i) :: []).toArray) CC h2 h3 h4 h5 (va_runV (As := []) (rest := st) ⟨c1, c2, c3, c4, c5⟩ hC (cwV 0 c5 (good_TB (fun w hw9 => ?_)) rfl rfl rfl ⟨rfl, hw.2.2.2⟩ hR.1) ⟨pc_blind, ?_, g_pre CC h1 h2 h3 h4⟩ rfl rfl h5.1 rfl (lv_room hcat) hd hR.2) k
  · rcases List.mem_append.mp hw9 with h | h
    · simp only [List.mem_cons, List.not_mem_nil, or_false] at h
      rcases h with rfl | rfl | rfl | rfl
      · exact hw.1
      · exact hi
      · exact hs
      · exact hw.2.1
    · exact cw_in hw.2.2.1 w h
  · have h9 := vk_recv c11.1 hi0 h4
    rw [← hyc] at h9
    exact h9
theorem g_callL1 {index i : Nat} {x1 : Value} (hi0 : i < nLit) (hw : CW μ.1 index y ν 1) (hi : Cond.instanceMethod y ∈ TB) (hs : Cond.selects y.cls y y ∈ TB) (hyc : y.cls = "java/lang/String") (hC : CT Γ ν y (.ref (Γ.2.2.2.1 i) :: [x1]) M n Q') (hd : decode μ.2.1 pc = .ok (.invokevirtual index, 3)) (hR : RM μ ν ce sl) (hcat : (st.map fun v => v.category).sum ≤ 8) (k : ∀ (v : Option Value) (M' : HM) (n' : Nat), Q' v M' n' → n ≤ n' → (∀ q, M' q ≠ none → AA M n q) → G Γ μ A E (ce + ν.2.2.2.2.2.1.cells) (sl + ν.2.2.2.2.2.1.slots) M' n' (pc + 3) vs (v.toList ++ st)) : G Γ μ A E ce sl M n pc vs (x1 :: .ref (Γ.2.2.2.1 i) :: st) := by
  intro p e s m args below meth c H locs ls CC h1 h2 h3 h4 h5
  obtain ⟨c1, c2, c3, c4, c5, c6, c7, c8, c9, c10, c11, c12, c13⟩ := id CC
  refine g_back (a := (Value.ref (Γ.2.2.2.1 i) :: [x1]).toArray) CC h2 h3 h4 h5 (va_runV (As := [x1]) (rest := st) ⟨c1, c2, c3, c4, c5⟩ hC (cwV 1 c5 (good_TB (fun w hw9 => ?_)) rfl rfl rfl ⟨rfl, hw.2.2.2⟩ hR.1) ⟨pc_blind, ?_, g_pre CC h1 h2 h3 h4⟩ rfl rfl h5.1 rfl (lv_room hcat) hd hR.2) k
  · rcases List.mem_append.mp hw9 with h | h
    · simp only [List.mem_cons, List.not_mem_nil, or_false] at h
      rcases h with rfl | rfl | rfl | rfl
      · exact hw.1
      · exact hi
      · exact hs
      · exact hw.2.1
    · exact cw_in hw.2.2.1 w h
  · have h9 := vk_recv c11.1 hi0 h4
    rw [← hyc] at h9
    exact h9
end CR
end
section
/-! ===== System.arraycopy between two arrays of ints or chars ===== -/
theorem g_copy {Γ : GE} {μ : MS} {A : Nat → Prop} {E : List Frame → Array Value → State → State → Prop} {ce sl : Nat} {M : HM} {n pc : Nat} {vs : List (Option Value)} {st : List Value}
    {index a0 a n0 n1 : Nat} (t : Nat) {ty : FieldType} {f g : Nat → Int32} {sp dp k : Nat} (ht : (tyL Γ.2.2.1)[t]? = some (Γ.2.2.1 t, ty)) (hprim : refKind ty = false) (hd : decode μ.2.1 pc = .ok (.invokestatic index, 3)) (hl : Cond.methodLink μ.1 index arraycopyName ∈ TB) (hnat : Cond.native arraycopyName ∈ TB) (hstat : Cond.static arraycopyName ∈ TB) (hini : Cond.initialized "java/lang/System" ∈ TB)
    (ha0 : M a0 = some (.inl (Γ.2.2.1 t, n0, .inl f))) (ha1 : M a = some (.inl (Γ.2.2.1 t, n1, .inl g))) (h4 : sp + k ≤ n0) (h5 : dp + k ≤ n1) (hn0 : n0 < 2147483648) (hn1 : n1 < 2147483648) (hfit : ∀ i, i < k → fits ty (.int (f (sp + i))) = true)
    (hfr : 1 ≤ μ.2.2.2.2.2.1.frames) (hlo : (st.map fun v => v.category).sum + (nativeFrameWords "java/lang/System" "arraycopy" 5 + 11) ≤ μ.2.2.2.2.2.1.locals)
    (kk : G Γ μ A E ce sl (hu M a (.inl (Γ.2.2.1 t, n1, .inl (va_cpy f g sp dp k)))) n (pc + 3) vs st) : G Γ μ A E ce sl M n pc vs (.int (iI (k : Nat)) :: .int (iI (dp : Nat)) :: .ref a :: .int (iI (sp : Nat)) :: .ref a0 :: st) := by
  intro p e s m args below meth c H locs ls CC h1 h2 h3 hS hv
  obtain ⟨c1, c2, c3, c4, c5, c6, c7, c8, c9, c10, c11, c12, c13⟩ := id CC
  intro T hT X
  have hc0 : H[a0]? = some (vp_cell (Γ.2.2.1 t) (n0, .inl f)) := h1 a0 _ ha0
  have hc1 : H[a]? = some (vp_cell (Γ.2.2.1 t) (n1, .inl g)) := h1 a _ ha1
  have hA : A a := h3 a (by rw [ha1]; simp)
  obtain ⟨-, k0, hk0, cm0, hkk0⟩ := (c9.2 t _ ht).1 n0 (fun j => .int (f j))
  obtain ⟨-, k1, hk1, cm1, hkk1⟩ := (c9.2 t _ ht).1 n1 (fun j => .int (g j))
  have ng : ∀ z : Nat, z < 2147483648 → ¬ iI (z : Nat) < 0 := by
    intro z hz
    rw [show (0 : Int32) = iI 0 from rfl, iI_lt (by omega) (by omega) (by omega) (by omega)]; omega
  have cl : ∀ z : Nat, z < 2147483648 → (iI (z : Nat)).toNatClampNeg = z := by
    intro z hz
    rw [iI_clamp (by omega) (by omega)]; rfl
  have ti : ∀ z : Nat, z < 2147483648 → (iI (z : Nat)).toInt = z := fun z hz => iI_toInt (by omega) (by omega)
  obtain ⟨vm', X', step⟩ := X.arraycopy c1 c4 (c5 _ hl) (c5 _ hnat) (c5 _ hstat) (c5 _ hini) (src := a0) (dst := a) (cs := vp_cell (Γ.2.2.1 t) (n0, .inl f)) (cd := vp_cell (Γ.2.2.1 t) (n1, .inl g)) (srcPos := iI (sp : Nat)) (destPos := iI (dp : Nat)) (n := iI (k : Nat)) (by rw [hT]; exact hc0) (by rw [hT]; exact hc1)
    (fun _ h => by cases h) (fun _ h => by cases h) (fun h => by cases h) (fun h => by cases h) hk0 hk1 hkk0 hkk1 (by simp [hprim]) (ng sp (by omega)) (ng dp (by omega)) (ng k (by omega))
    (by rw [ti sp (by omega), ti k (by omega)]; show ¬ _ > ((arrV _ n0 (fun j => .int (f j))).slots.size : Int); rw [arrV_size]; omega)
    (by rw [ti dp (by omega), ti k (by omega)]; show ¬ _ > ((arrV _ n1 (fun j => .int (g j))).slots.size : Int); rw [arrV_size]; omega)
    (fun vm₁ _ i hi => by
      rw [cl k (by omega)] at hi
      rw [cl sp (by omega)]
      have e : (vp_cell (Γ.2.2.1 t) (n0, .inl f)).slots.getD (sp + i) .null = .int (f (sp + i)) := by
        show (arrV (Γ.2.2.1 t) n0 (fun j => .int (f j))).slots.getD _ _ = _
        rw [Array.getD_eq_getD_getElem?, arrV_read _ _ (by omega)]
        rfl
      refine ⟨?_, ?_⟩
      · rw [e]
        exact hfit i hi
      · rw [e]
        exact trivial)
    (g := F0 m pc ls (.int (iI (k : Nat)) :: .int (iI (dp : Nat)) :: .ref a :: .int (iI (sp : Nat)) :: .ref a0 :: st)) rfl (by rw [c3]; exact hv.1) (rest := st) rfl (by rw [c2]; exact hd) hfr (by show 2 * 0 + _ + _ ≤ _; omega)
  have e1 : copied (vp_cell (Γ.2.2.1 t) (n0, .inl f)) (vp_cell (Γ.2.2.1 t) (n1, .inl g)) (iI (sp : Nat)) (iI (dp : Nat)) (iI (k : Nat)) = vp_cell (Γ.2.2.1 t) (n1, .inl (va_cpy f g sp dp k)) := by
    have h9 := va_copied (fun z => Value.int z) (Γ.2.2.1 t) (Γ.2.2.1 t) (n0 := n0) (n1 := n1) (sp := sp) (dp := dp) (n := k) f g h4
    show (arrV (Γ.2.2.1 t) n1 (fun j => .int (g j))).storeRun (iI (dp : Nat)).toNatClampNeg ((arrV (Γ.2.2.1 t) n0 (fun j => .int (f j))).stretch (iI (sp : Nat)).toNatClampNeg (iI (k : Nat)).toNatClampNeg) = _
    rw [cl sp (by omega), cl dp (by omega), cl k (by omega)]
    exact h9
  rw [e1] at X' step
  have hlt : a < H.size := (Array.getElem?_eq_some_iff.mp hc1).1
  have hheap : ((T.setVm vm').setCell a (vp_cell (Γ.2.2.1 t) (n1, .inl (va_cpy f g sp dp k)))).heap = H.setIfInBounds a (vp_cell (Γ.2.2.1 t) (n1, .inl (va_cpy f g sp dp k))) := by rw [← hT]; rfl
  have oq : ∀ q : Nat, q ≠ a → (H.setIfInBounds a (vp_cell (Γ.2.2.1 t) (n1, .inl (va_cpy f g sp dp k))))[q]? = H[q]? := fun q hq => by simp [Array.getElem?_setIfInBounds, Ne.symm hq]
  obtain ⟨t9, a1, b1⟩ := kk p e s m args below meth c _ _ ls CC (h1.put (show (H.setIfInBounds a _)[a]? = some _ by simp [Array.getElem?_setIfInBounds, hlt]) oq) (by simp; exact h2) (hu_dom h3 hA) ⟨by simp; exact hS.1, fun q g1 g2 => by
      rw [oq q (fun e => g2 (by rw [e]; exact hA))]
      exact hS.2.1 q g1 g2, fun q hq => by
      rcases List.mem_append.mp hq with h | h
      · exact hS.2.2 q h
      · obtain ⟨z, -, hz⟩ := List.mem_map.mp h
        rw [← hz]
        exact hA⟩ hv _ hheap X'
  exact ⟨t9, step t9 a1, b1⟩
theorem va_cpy0 {α : Type} (f g : Nat → α) (sp dp : Nat) : va_cpy f g sp dp 0 = g := by
  funext j
  unfold va_cpy
  rw [if_neg (by omega)]
end
section
theorem i2c_nat {j : Nat} (h : j < 65536) : ((iI (j : Nat)).toUInt32 % 65536).toInt32 = iI (j : Nat) := by
  rw [← iI_nI, pk_char, pk_tn (by omega), Nat.mod_eq_of_lt h]
theorem nar_char {j : Nat} (h : j < 65536) : narrow .char (.int (iI (j : Nat))) = .int (iI (j : Nat)) := by
  rw [← iI_nI]; exact (pk_charN h).1
theorem nar_charZ {z : Int} (h1 : 0 ≤ z) (h2 : z < 65536) : narrow .char (.int (iI z)) = .int (iI z) := by
  obtain ⟨j, rfl⟩ := Int.eq_ofNat_of_zero_le h1
  exact nar_char (by omega)
theorem lenLit_le (i : Nat) : lenLit.getD i 0 ≤ 40 := by
  have h : ∀ j, j < 22 → lenLit.getD j 0 ≤ 40 := by decide
  by_cases hi : i < 22
  · exact h i hi
  · have e : lenLit.getD i 0 = 0 := by
      rw [List.getD_eq_getElem?_getD, List.getElem?_eq_none (by show 22 ≤ i; omega)]; rfl
    omega
theorem and255 (x : Int32) : ∃ j : Nat, j < 256 ∧ x &&& iI 255 = iI (j : Nat) := by
  obtain ⟨j, h1, h2⟩ := pk_andE x (m := iI 255) 8 (by decide)
  exact ⟨j, h1, by rw [h2, iI_nI]⟩
theorem shr0 (x : Int32) : x >>> (iI 0 &&& 31) = x := sb_shr0 x
theorem g_ldcSW {Γ : GE} {μ : MS} {A : Nat → Prop} {E : List Frame → Array Value → State → State → Prop} {ce sl : Nat} {M : HM} {n pc : Nat} {vs : List (Option Value)} {st : List Value} {is lit : Nat} {text : String} (hlit : (μ.1, is, text, lit) ∈ litL) (hd : decode μ.2.1 pc = .ok (.ldc_w is, 3)) (k : G Γ μ A E ce sl M n (pc + 3) vs (.ref (Γ.2.2.2.1 lit) :: st)) : G Γ μ A E ce sl M n pc vs st := by
  intro p e s m args below meth c H locs ls CC h1 h2 h3 h4 h5
  obtain ⟨c1, c2, c3, c4, c5, c6, c7, c8, c9, c10, c11, c12, c13⟩ := id CC
  intro T hT X
  obtain ⟨t, a1, b1⟩ := k p e s m args below meth c H locs ls CC h1 h2 h3 h4 h5 T hT X
  exact ⟨t, X.ldcStringW c1 c4 (text := text) (a := Γ.2.2.2.1 lit) (c11.2.1 _ hlit).1 (c11.2.1 _ hlit).2 (g := F0 m pc ls st) rfl (by rw [c2]; exact hd) t a1, b1⟩
theorem g_lcmp {Γ : GE} {μ : MS} {A : Nat → Prop} {E : List Frame → Array Value → State → State → Prop} {ce sl : Nat} {M : HM} {n pc : Nat} {vs : List (Option Value)} {st : List Value} {x y : Int64} (hd : decode μ.2.1 pc = .ok (.lcmp, 1)) (k : ∀ z : Int, -1 ≤ z → z ≤ 1 → G Γ μ A E ce sl M n (pc + 1) vs (.int (iI z) :: st)) : G Γ μ A E ce sl M n pc vs (.long y :: .long x :: st) := by
  intro p e s m args below meth c H locs ls CC h1 h2 h3 h4 h5
  obtain ⟨c1, c2, c3, c4, c5, c6, c7, c8, c9, c10, c11, c12, c13⟩ := id CC
  have hz : ∃ z : Int, -1 ≤ z ∧ z ≤ 1 ∧ lg_cmp x y = iI z := by
    unfold lg_cmp
    split
    · exact ⟨1, by omega, by omega, rfl⟩
    · split
      · exact ⟨0, by omega, by omega, rfl⟩
      · exact ⟨-1, by omega, by omega, rfl⟩
  obtain ⟨z, z1, z2, ez⟩ := hz
  refine W.lcmp c1 c2 hd ?_
  rw [ez]
  exact k z z1 z2 p e s m args below meth c H locs ls CC h1 h2 h3 h4 h5
end
section
theorem d_Ro_init_0 : decode b_Ro_init 0 = .ok (.aload_n 0, 1) := by decide +kernel
theorem d_Ro_init_1 : decode b_Ro_init 1 = .ok (.invokespecial 3, 3) := by decide +kernel
theorem d_Ro_init_4 : decode b_Ro_init 4 = .ok (.aload_n 0, 1) := by decide +kernel
theorem d_Ro_init_5 : decode b_Ro_init 5 = .ok (.sipush 300, 3) := by decide +kernel
theorem d_Ro_init_8 : decode b_Ro_init 8 = .ok (.newarray .char, 2) := by decide +kernel
theorem d_Ro_init_10 : decode b_Ro_init 10 = .ok (.putfield 9, 3) := by decide +kernel
theorem d_Ro_init_13 : decode b_Ro_init 13 = .ok (.aload_n 0, 1) := by decide +kernel
theorem d_Ro_init_14 : decode b_Ro_init 14 = .ok (.iconst 0, 1) := by decide +kernel
theorem d_Ro_init_15 : decode b_Ro_init 15 = .ok (.putfield 15, 3) := by decide +kernel
theorem d_Ro_init_18 : decode b_Ro_init 18 = .ok (.return_, 1) := by decide +kernel
theorem d_It_init_0 : decode b_It_init 0 = .ok (.aload_n 0, 1) := by decide +kernel
theorem d_It_init_1 : decode b_It_init 1 = .ok (.invokespecial 3, 3) := by decide +kernel
theorem d_It_init_4 : decode b_It_init 4 = .ok (.aload_n 0, 1) := by decide +kernel
theorem d_It_init_5 : decode b_It_init 5 = .ok (.new 9, 3) := by decide +kernel
theorem d_It_init_8 : decode b_It_init 8 = .ok (.dup, 1) := by decide +kernel
theorem d_It_init_9 : decode b_It_init 9 = .ok (.invokespecial 11, 3) := by decide +kernel
theorem d_It_init_12 : decode b_It_init 12 = .ok (.putfield 12, 3) := by decide +kernel
theorem d_It_init_15 : decode b_It_init 15 = .ok (.aload_n 0, 1) := by decide +kernel
theorem d_It_init_16 : decode b_It_init 16 = .ok (.sipush 150, 3) := by decide +kernel
theorem d_It_init_19 : decode b_It_init 19 = .ok (.newarray .int, 2) := by decide +kernel
theorem d_It_init_21 : decode b_It_init 21 = .ok (.putfield 18, 3) := by decide +kernel
theorem d_It_init_24 : decode b_It_init 24 = .ok (.aload_n 0, 1) := by decide +kernel
theorem d_It_init_25 : decode b_It_init 25 = .ok (.iconst 0, 1) := by decide +kernel
theorem d_It_init_26 : decode b_It_init 26 = .ok (.putfield 22, 3) := by decide +kernel
theorem d_It_init_29 : decode b_It_init 29 = .ok (.return_, 1) := by decide +kernel
theorem d_Te_init_0 : decode b_Te_init 0 = .ok (.aload_n 0, 1) := by decide +kernel
theorem d_Te_init_1 : decode b_Te_init 1 = .ok (.invokespecial 3, 3) := by decide +kernel
theorem d_Te_init_4 : decode b_Te_init 4 = .ok (.aload_n 0, 1) := by decide +kernel
theorem d_Te_init_5 : decode b_Te_init 5 = .ok (.new 9, 3) := by decide +kernel
theorem d_Te_init_8 : decode b_Te_init 8 = .ok (.dup, 1) := by decide +kernel
theorem d_Te_init_9 : decode b_Te_init 9 = .ok (.invokespecial 11, 3) := by decide +kernel
theorem d_Te_init_12 : decode b_Te_init 12 = .ok (.putfield 12, 3) := by decide +kernel
theorem d_Te_init_15 : decode b_Te_init 15 = .ok (.aload_n 0, 1) := by decide +kernel
theorem d_Te_init_16 : decode b_Te_init 16 = .ok (.bipush 100, 2) := by decide +kernel
theorem d_Te_init_18 : decode b_Te_init 18 = .ok (.newarray .int, 2) := by decide +kernel
theorem d_Te_init_20 : decode b_Te_init 20 = .ok (.putfield 18, 3) := by decide +kernel
theorem d_Te_init_23 : decode b_Te_init 23 = .ok (.aload_n 0, 1) := by decide +kernel
theorem d_Te_init_24 : decode b_Te_init 24 = .ok (.bipush 100, 2) := by decide +kernel
theorem d_Te_init_26 : decode b_Te_init 26 = .ok (.newarray .int, 2) := by decide +kernel
theorem d_Te_init_28 : decode b_Te_init 28 = .ok (.putfield 22, 3) := by decide +kernel
theorem d_Te_init_31 : decode b_Te_init 31 = .ok (.aload_n 0, 1) := by decide +kernel
theorem d_Te_init_32 : decode b_Te_init 32 = .ok (.bipush 100, 2) := by decide +kernel
theorem d_Te_init_34 : decode b_Te_init 34 = .ok (.newarray .int, 2) := by decide +kernel
theorem d_Te_init_36 : decode b_Te_init 36 = .ok (.putfield 25, 3) := by decide +kernel
theorem d_Te_init_39 : decode b_Te_init 39 = .ok (.aload_n 0, 1) := by decide +kernel
theorem d_Te_init_40 : decode b_Te_init 40 = .ok (.iconst 0, 1) := by decide +kernel
theorem d_Te_init_41 : decode b_Te_init 41 = .ok (.putfield 28, 3) := by decide +kernel
theorem d_Te_init_44 : decode b_Te_init 44 = .ok (.return_, 1) := by decide +kernel
theorem d_Sh_init_0 : decode b_Sh_init 0 = .ok (.aload_n 0, 1) := by decide +kernel
theorem d_Sh_init_1 : decode b_Sh_init 1 = .ok (.invokespecial 3, 3) := by decide +kernel
theorem d_Sh_init_4 : decode b_Sh_init 4 = .ok (.aload_n 0, 1) := by decide +kernel
theorem d_Sh_init_5 : decode b_Sh_init 5 = .ok (.bipush 25, 2) := by decide +kernel
theorem d_Sh_init_7 : decode b_Sh_init 7 = .ok (.anewarray 9, 3) := by decide +kernel
theorem d_Sh_init_10 : decode b_Sh_init 10 = .ok (.putfield 11, 3) := by decide +kernel
theorem d_Sh_init_13 : decode b_Sh_init 13 = .ok (.aload_n 0, 1) := by decide +kernel
theorem d_Sh_init_14 : decode b_Sh_init 14 = .ok (.iconst 0, 1) := by decide +kernel
theorem d_Sh_init_15 : decode b_Sh_init 15 = .ok (.putfield 17, 3) := by decide +kernel
theorem d_Sh_init_18 : decode b_Sh_init 18 = .ok (.aload_n 0, 1) := by decide +kernel
theorem d_Sh_init_19 : decode b_Sh_init 19 = .ok (.iconst 0, 1) := by decide +kernel
theorem d_Sh_init_20 : decode b_Sh_init 20 = .ok (.putfield 21, 3) := by decide +kernel
theorem d_Sh_init_23 : decode b_Sh_init 23 = .ok (.return_, 1) := by decide +kernel
theorem d_Th_init_0 : decode b_Th_init 0 = .ok (.aload_n 0, 1) := by decide +kernel
theorem d_Th_init_1 : decode b_Th_init 1 = .ok (.invokespecial 3, 3) := by decide +kernel
theorem d_Th_init_4 : decode b_Th_init 4 = .ok (.aload_n 0, 1) := by decide +kernel
theorem d_Th_init_5 : decode b_Th_init 5 = .ok (.new 9, 3) := by decide +kernel
theorem d_Th_init_8 : decode b_Th_init 8 = .ok (.dup, 1) := by decide +kernel
theorem d_Th_init_9 : decode b_Th_init 9 = .ok (.invokespecial 11, 3) := by decide +kernel
theorem d_Th_init_12 : decode b_Th_init 12 = .ok (.putfield 12, 3) := by decide +kernel
theorem d_Th_init_15 : decode b_Th_init 15 = .ok (.aload_n 0, 1) := by decide +kernel
theorem d_Th_init_16 : decode b_Th_init 16 = .ok (.new 18, 3) := by decide +kernel
theorem d_Th_init_19 : decode b_Th_init 19 = .ok (.dup, 1) := by decide +kernel
theorem d_Th_init_20 : decode b_Th_init 20 = .ok (.invokespecial 20, 3) := by decide +kernel
theorem d_Th_init_23 : decode b_Th_init 23 = .ok (.putfield 21, 3) := by decide +kernel
theorem d_Th_init_26 : decode b_Th_init 26 = .ok (.aload_n 0, 1) := by decide +kernel
theorem d_Th_init_27 : decode b_Th_init 27 = .ok (.new 25, 3) := by decide +kernel
theorem d_Th_init_30 : decode b_Th_init 30 = .ok (.dup, 1) := by decide +kernel
theorem d_Th_init_31 : decode b_Th_init 31 = .ok (.invokespecial 27, 3) := by decide +kernel
theorem d_Th_init_34 : decode b_Th_init 34 = .ok (.putfield 28, 3) := by decide +kernel
theorem d_Th_init_37 : decode b_Th_init 37 = .ok (.aload_n 0, 1) := by decide +kernel
theorem d_Th_init_38 : decode b_Th_init 38 = .ok (.iconst 0, 1) := by decide +kernel
theorem d_Th_init_39 : decode b_Th_init 39 = .ok (.putfield 32, 3) := by decide +kernel
theorem d_Th_init_42 : decode b_Th_init 42 = .ok (.aload_n 0, 1) := by decide +kernel
theorem d_Th_init_43 : decode b_Th_init 43 = .ok (.bipush (-2), 2) := by decide +kernel
theorem d_Th_init_45 : decode b_Th_init 45 = .ok (.putfield 36, 3) := by decide +kernel
theorem d_Th_init_48 : decode b_Th_init 48 = .ok (.aload_n 0, 1) := by decide +kernel
theorem d_Th_init_49 : decode b_Th_init 49 = .ok (.bipush (-2), 2) := by decide +kernel
theorem d_Th_init_51 : decode b_Th_init 51 = .ok (.putfield 39, 3) := by decide +kernel
theorem d_Th_init_54 : decode b_Th_init 54 = .ok (.aload_n 0, 1) := by decide +kernel
theorem d_Th_init_55 : decode b_Th_init 55 = .ok (.iconst 0, 1) := by decide +kernel
theorem d_Th_init_56 : decode b_Th_init 56 = .ok (.putfield 42, 3) := by decide +kernel
theorem d_Th_init_59 : decode b_Th_init 59 = .ok (.aload_n 0, 1) := by decide +kernel
theorem d_Th_init_60 : decode b_Th_init 60 = .ok (.iconst 0, 1) := by decide +kernel
theorem d_Th_init_61 : decode b_Th_init 61 = .ok (.putfield 46, 3) := by decide +kernel
theorem d_Th_init_64 : decode b_Th_init 64 = .ok (.aload_n 0, 1) := by decide +kernel
theorem d_Th_init_65 : decode b_Th_init 65 = .ok (.iconst 0, 1) := by decide +kernel
theorem d_Th_init_66 : decode b_Th_init 66 = .ok (.putfield 49, 3) := by decide +kernel
theorem d_Th_init_69 : decode b_Th_init 69 = .ok (.aload_n 0, 1) := by decide +kernel
theorem d_Th_init_70 : decode b_Th_init 70 = .ok (.iconst 0, 1) := by decide +kernel
theorem d_Th_init_71 : decode b_Th_init 71 = .ok (.putfield 52, 3) := by decide +kernel
theorem d_Th_init_74 : decode b_Th_init 74 = .ok (.aload_n 0, 1) := by decide +kernel
theorem d_Th_init_75 : decode b_Th_init 75 = .ok (.iconst 0, 1) := by decide +kernel
theorem d_Th_init_76 : decode b_Th_init 76 = .ok (.putfield 55, 3) := by decide +kernel
theorem d_Th_init_79 : decode b_Th_init 79 = .ok (.aload_n 0, 1) := by decide +kernel
theorem d_Th_init_80 : decode b_Th_init 80 = .ok (.iconst 0, 1) := by decide +kernel
theorem d_Th_init_81 : decode b_Th_init 81 = .ok (.putfield 58, 3) := by decide +kernel
theorem d_Th_init_84 : decode b_Th_init 84 = .ok (.aload_n 0, 1) := by decide +kernel
theorem d_Th_init_85 : decode b_Th_init 85 = .ok (.iconst 0, 1) := by decide +kernel
theorem d_Th_init_86 : decode b_Th_init 86 = .ok (.putfield 61, 3) := by decide +kernel
theorem d_Th_init_89 : decode b_Th_init 89 = .ok (.return_, 1) := by decide +kernel
theorem d_VS_init_0 : decode b_VS_init 0 = .ok (.aload_n 0, 1) := by decide +kernel
theorem d_VS_init_1 : decode b_VS_init 1 = .ok (.invokespecial 3, 3) := by decide +kernel
theorem d_VS_init_4 : decode b_VS_init 4 = .ok (.aload_n 0, 1) := by decide +kernel
theorem d_VS_init_5 : decode b_VS_init 5 = .ok (.new 9, 3) := by decide +kernel
theorem d_VS_init_8 : decode b_VS_init 8 = .ok (.dup, 1) := by decide +kernel
theorem d_VS_init_9 : decode b_VS_init 9 = .ok (.invokespecial 11, 3) := by decide +kernel
theorem d_VS_init_12 : decode b_VS_init 12 = .ok (.putfield 12, 3) := by decide +kernel
theorem d_VS_init_15 : decode b_VS_init 15 = .ok (.aload_n 0, 1) := by decide +kernel
theorem d_VS_init_16 : decode b_VS_init 16 = .ok (.new 16, 3) := by decide +kernel
theorem d_VS_init_19 : decode b_VS_init 19 = .ok (.dup, 1) := by decide +kernel
theorem d_VS_init_20 : decode b_VS_init 20 = .ok (.invokespecial 18, 3) := by decide +kernel
theorem d_VS_init_23 : decode b_VS_init 23 = .ok (.putfield 19, 3) := by decide +kernel
theorem d_VS_init_26 : decode b_VS_init 26 = .ok (.aload_n 0, 1) := by decide +kernel
theorem d_VS_init_27 : decode b_VS_init 27 = .ok (.new 23, 3) := by decide +kernel
theorem d_VS_init_30 : decode b_VS_init 30 = .ok (.dup, 1) := by decide +kernel
theorem d_VS_init_31 : decode b_VS_init 31 = .ok (.invokespecial 25, 3) := by decide +kernel
theorem d_VS_init_34 : decode b_VS_init 34 = .ok (.putfield 26, 3) := by decide +kernel
theorem d_VS_init_37 : decode b_VS_init 37 = .ok (.aload_n 0, 1) := by decide +kernel
theorem d_VS_init_38 : decode b_VS_init 38 = .ok (.new 23, 3) := by decide +kernel
theorem d_VS_init_41 : decode b_VS_init 41 = .ok (.dup, 1) := by decide +kernel
theorem d_VS_init_42 : decode b_VS_init 42 = .ok (.invokespecial 25, 3) := by decide +kernel
theorem d_VS_init_45 : decode b_VS_init 45 = .ok (.putfield 30, 3) := by decide +kernel
theorem d_VS_init_48 : decode b_VS_init 48 = .ok (.aload_n 0, 1) := by decide +kernel
theorem d_VS_init_49 : decode b_VS_init 49 = .ok (.iconst (-1), 1) := by decide +kernel
theorem d_VS_init_50 : decode b_VS_init 50 = .ok (.putfield 33, 3) := by decide +kernel
theorem d_VS_init_53 : decode b_VS_init 53 = .ok (.aload_n 0, 1) := by decide +kernel
theorem d_VS_init_54 : decode b_VS_init 54 = .ok (.iconst 0, 1) := by decide +kernel
theorem d_VS_init_55 : decode b_VS_init 55 = .ok (.putfield 37, 3) := by decide +kernel
theorem d_VS_init_58 : decode b_VS_init 58 = .ok (.aload_n 0, 1) := by decide +kernel
theorem d_VS_init_59 : decode b_VS_init 59 = .ok (.new 9, 3) := by decide +kernel
theorem d_VS_init_62 : decode b_VS_init 62 = .ok (.dup, 1) := by decide +kernel
theorem d_VS_init_63 : decode b_VS_init 63 = .ok (.invokespecial 11, 3) := by decide +kernel
theorem d_VS_init_66 : decode b_VS_init 66 = .ok (.putfield 40, 3) := by decide +kernel
theorem d_VS_init_69 : decode b_VS_init 69 = .ok (.aload_n 0, 1) := by decide +kernel
theorem d_VS_init_70 : decode b_VS_init 70 = .ok (.new 9, 3) := by decide +kernel
theorem d_VS_init_73 : decode b_VS_init 73 = .ok (.dup, 1) := by decide +kernel
theorem d_VS_init_74 : decode b_VS_init 74 = .ok (.invokespecial 11, 3) := by decide +kernel
theorem d_VS_init_77 : decode b_VS_init 77 = .ok (.putfield 43, 3) := by decide +kernel
theorem d_VS_init_80 : decode b_VS_init 80 = .ok (.aload_n 0, 1) := by decide +kernel
theorem d_VS_init_81 : decode b_VS_init 81 = .ok (.new 46, 3) := by decide +kernel
theorem d_VS_init_84 : decode b_VS_init 84 = .ok (.dup, 1) := by decide +kernel
theorem d_VS_init_85 : decode b_VS_init 85 = .ok (.invokespecial 48, 3) := by decide +kernel
theorem d_VS_init_88 : decode b_VS_init 88 = .ok (.putfield 49, 3) := by decide +kernel
theorem d_VS_init_91 : decode b_VS_init 91 = .ok (.aload_n 0, 1) := by decide +kernel
theorem d_VS_init_92 : decode b_VS_init 92 = .ok (.new 46, 3) := by decide +kernel
theorem d_VS_init_95 : decode b_VS_init 95 = .ok (.dup, 1) := by decide +kernel
theorem d_VS_init_96 : decode b_VS_init 96 = .ok (.invokespecial 48, 3) := by decide +kernel
theorem d_VS_init_99 : decode b_VS_init 99 = .ok (.putfield 53, 3) := by decide +kernel
theorem d_VS_init_102 : decode b_VS_init 102 = .ok (.aload_n 0, 1) := by decide +kernel
theorem d_VS_init_103 : decode b_VS_init 103 = .ok (.new 46, 3) := by decide +kernel
theorem d_VS_init_106 : decode b_VS_init 106 = .ok (.dup, 1) := by decide +kernel
theorem d_VS_init_107 : decode b_VS_init 107 = .ok (.invokespecial 48, 3) := by decide +kernel
theorem d_VS_init_110 : decode b_VS_init 110 = .ok (.putfield 56, 3) := by decide +kernel
theorem d_VS_init_113 : decode b_VS_init 113 = .ok (.return_, 1) := by decide +kernel
theorem d_Ro_clear_0 : decode b_Ro_clear 0 = .ok (.aload_n 0, 1) := by decide +kernel
theorem d_Ro_clear_1 : decode b_Ro_clear 1 = .ok (.iconst 0, 1) := by decide +kernel
theorem d_Ro_clear_2 : decode b_Ro_clear 2 = .ok (.putfield 15, 3) := by decide +kernel
theorem d_Ro_clear_5 : decode b_Ro_clear 5 = .ok (.return_, 1) := by decide +kernel
theorem d_Ro_copy_0 : decode b_Ro_copy 0 = .ok (.aload_n 1, 1) := by decide +kernel
theorem d_Ro_copy_1 : decode b_Ro_copy 1 = .ok (.getfield 9, 3) := by decide +kernel
theorem d_Ro_copy_4 : decode b_Ro_copy 4 = .ok (.iconst 0, 1) := by decide +kernel
theorem d_Ro_copy_5 : decode b_Ro_copy 5 = .ok (.aload_n 0, 1) := by decide +kernel
theorem d_Ro_copy_6 : decode b_Ro_copy 6 = .ok (.getfield 9, 3) := by decide +kernel
theorem d_Ro_copy_9 : decode b_Ro_copy 9 = .ok (.iconst 0, 1) := by decide +kernel
theorem d_Ro_copy_10 : decode b_Ro_copy 10 = .ok (.aload_n 1, 1) := by decide +kernel
theorem d_Ro_copy_11 : decode b_Ro_copy 11 = .ok (.getfield 15, 3) := by decide +kernel
theorem d_Ro_copy_14 : decode b_Ro_copy 14 = .ok (.invokestatic 19, 3) := by decide +kernel
theorem d_Ro_copy_17 : decode b_Ro_copy 17 = .ok (.aload_n 0, 1) := by decide +kernel
theorem d_Ro_copy_18 : decode b_Ro_copy 18 = .ok (.aload_n 1, 1) := by decide +kernel
theorem d_Ro_copy_19 : decode b_Ro_copy 19 = .ok (.getfield 15, 3) := by decide +kernel
theorem d_Ro_copy_22 : decode b_Ro_copy 22 = .ok (.putfield 15, 3) := by decide +kernel
theorem d_Ro_copy_25 : decode b_Ro_copy 25 = .ok (.return_, 1) := by decide +kernel
set_option maxRecDepth 20000 in
theorem w_63 : Cond.methodLink "VaryStore$Row" 3 objectInit ∈ TB := tb_in 63 (by decide +kernel) (by decide +kernel)
set_option maxRecDepth 20000 in
theorem w_56 : Cond.instanceMethod objectInit ∈ TB := tb_in 56 (by decide +kernel) (by decide +kernel)
set_option maxRecDepth 20000 in
theorem w_57 : Cond.code objectInit ⟨#[0xb1]⟩ 1 none ∈ TB := tb_in 57 (by decide +kernel) (by decide +kernel)
set_option maxRecDepth 20000 in
theorem w_74 : Cond.arrayClass .char ∈ TB := tb_in 74 (by decide +kernel) (by decide +kernel)
set_option maxRecDepth 20000 in
theorem w_64 : Cond.fieldLink "VaryStore$Row" 9 "VaryStore$Row" "letters" "[C"  ∈ TB := tb_in 64 (by decide +kernel) (by decide +kernel)
set_option maxRecDepth 20000 in
theorem w_65 : Cond.fieldLink "VaryStore$Row" 15 "VaryStore$Row" "length" "I"  ∈ TB := tb_in 65 (by decide +kernel) (by decide +kernel)
set_option maxRecDepth 20000 in
theorem w_124 : Cond.methodLink "VaryStore$Items" 3 objectInit ∈ TB := tb_in 124 (by decide +kernel) (by decide +kernel)
set_option maxRecDepth 20000 in
theorem w_59 : Cond.instantiable "VaryStore$Row" 2 ∈ TB := tb_in 59 (by decide +kernel) (by decide +kernel)
set_option maxRecDepth 20000 in
theorem w_125 : Cond.classLink "VaryStore$Items" 9 "VaryStore$Row" ∈ TB := tb_in 125 (by decide +kernel) (by decide +kernel)
set_option maxRecDepth 20000 in
theorem w_31 : Cond.initialized "VaryStore$Row" ∈ TB := tb_in 31 (by decide +kernel) (by decide +kernel)
set_option maxRecDepth 20000 in
theorem w_62 : Cond.code ⟨"VaryStore$Row", "<init>", "()V"⟩ prog_3_method_1_code 1 none ∈ TB := tb_in 62 (by decide +kernel) (by decide +kernel)
set_option maxRecDepth 20000 in
theorem w_126 : Cond.methodLinkNest "VaryStore$Items" 11 ⟨"VaryStore$Row", "<init>", "()V"⟩ "VaryStore" ∈ NB := nb_in 126 (by decide +kernel) (by decide +kernel)
set_option maxRecDepth 20000 in
theorem w_61 : Cond.instanceMethod ⟨"VaryStore$Row", "<init>", "()V"⟩ ∈ TB := tb_in 61 (by decide +kernel) (by decide +kernel)
set_option maxRecDepth 20000 in
theorem w_127 : Cond.fieldLink "VaryStore$Items" 12 "VaryStore$Items" "row" "LVaryStore$Row;"  ∈ TB := tb_in 127 (by decide +kernel) (by decide +kernel)
set_option maxRecDepth 20000 in
theorem w_118 : Cond.arrayClass .int ∈ TB := tb_in 118 (by decide +kernel) (by decide +kernel)
set_option maxRecDepth 20000 in
theorem w_128 : Cond.fieldLink "VaryStore$Items" 18 "VaryStore$Items" "ends" "[I"  ∈ TB := tb_in 128 (by decide +kernel) (by decide +kernel)
set_option maxRecDepth 20000 in
theorem w_129 : Cond.fieldLink "VaryStore$Items" 22 "VaryStore$Items" "count" "I"  ∈ TB := tb_in 129 (by decide +kernel) (by decide +kernel)
set_option maxRecDepth 20000 in
theorem w_99 : Cond.methodLink "VaryStore$Text" 3 objectInit ∈ TB := tb_in 99 (by decide +kernel) (by decide +kernel)
set_option maxRecDepth 20000 in
theorem w_100 : Cond.classLink "VaryStore$Text" 9 "VaryStore$Row" ∈ TB := tb_in 100 (by decide +kernel) (by decide +kernel)
set_option maxRecDepth 20000 in
theorem w_101 : Cond.methodLinkNest "VaryStore$Text" 11 ⟨"VaryStore$Row", "<init>", "()V"⟩ "VaryStore" ∈ NB := nb_in 101 (by decide +kernel) (by decide +kernel)
set_option maxRecDepth 20000 in
theorem w_102 : Cond.fieldLink "VaryStore$Text" 12 "VaryStore$Text" "row" "LVaryStore$Row;"  ∈ TB := tb_in 102 (by decide +kernel) (by decide +kernel)
set_option maxRecDepth 20000 in
theorem w_103 : Cond.fieldLink "VaryStore$Text" 18 "VaryStore$Text" "starts" "[I"  ∈ TB := tb_in 103 (by decide +kernel) (by decide +kernel)
set_option maxRecDepth 20000 in
theorem w_104 : Cond.fieldLink "VaryStore$Text" 22 "VaryStore$Text" "colons" "[I"  ∈ TB := tb_in 104 (by decide +kernel) (by decide +kernel)
set_option maxRecDepth 20000 in
theorem w_105 : Cond.fieldLink "VaryStore$Text" 25 "VaryStore$Text" "ends" "[I"  ∈ TB := tb_in 105 (by decide +kernel) (by decide +kernel)
set_option maxRecDepth 20000 in
theorem w_106 : Cond.fieldLink "VaryStore$Text" 28 "VaryStore$Text" "lines" "I"  ∈ TB := tb_in 106 (by decide +kernel) (by decide +kernel)
set_option maxRecDepth 20000 in
theorem w_80 : Cond.methodLink "VaryStore$Shelf" 3 objectInit ∈ TB := tb_in 80 (by decide +kernel) (by decide +kernel)
set_option maxRecDepth 20000 in
theorem w_82 : Cond.arrayOver (.object "VaryStore$Thing") ∈ NB := nb_in 82 (by decide +kernel) (by decide +kernel)
set_option maxRecDepth 20000 in
theorem w_81 : Cond.classLink "VaryStore$Shelf" 9 "VaryStore$Thing" ∈ TB := tb_in 81 (by decide +kernel) (by decide +kernel)
set_option maxRecDepth 20000 in
theorem w_83 : Cond.fieldLink "VaryStore$Shelf" 11 "VaryStore$Shelf" "all" "[LVaryStore$Thing;"  ∈ TB := tb_in 83 (by decide +kernel) (by decide +kernel)
set_option maxRecDepth 20000 in
theorem w_84 : Cond.fieldLink "VaryStore$Shelf" 17 "VaryStore$Shelf" "count" "I"  ∈ TB := tb_in 84 (by decide +kernel) (by decide +kernel)
set_option maxRecDepth 20000 in
theorem w_86 : Cond.fieldLink "VaryStore$Shelf" 21 "VaryStore$Shelf" "uses" "I"  ∈ TB := tb_in 86 (by decide +kernel) (by decide +kernel)
set_option maxRecDepth 20000 in
theorem w_518 : Cond.methodLink "VaryStore$Thing" 3 objectInit ∈ TB := tb_in 518 (by decide +kernel) (by decide +kernel)
set_option maxRecDepth 20000 in
theorem w_519 : Cond.classLink "VaryStore$Thing" 9 "VaryStore$Row" ∈ TB := tb_in 519 (by decide +kernel) (by decide +kernel)
set_option maxRecDepth 20000 in
theorem w_520 : Cond.methodLinkNest "VaryStore$Thing" 11 ⟨"VaryStore$Row", "<init>", "()V"⟩ "VaryStore" ∈ NB := nb_in 520 (by decide +kernel) (by decide +kernel)
set_option maxRecDepth 20000 in
theorem w_525 : Cond.fieldLink "VaryStore$Thing" 12 "VaryStore$Thing" "etag" "LVaryStore$Row;"  ∈ TB := tb_in 525 (by decide +kernel) (by decide +kernel)
set_option maxRecDepth 20000 in
theorem w_120 : Cond.instantiable "VaryStore$Items" 3 ∈ TB := tb_in 120 (by decide +kernel) (by decide +kernel)
set_option maxRecDepth 20000 in
theorem w_521 : Cond.classLink "VaryStore$Thing" 18 "VaryStore$Items" ∈ TB := tb_in 521 (by decide +kernel) (by decide +kernel)
set_option maxRecDepth 20000 in
theorem w_34 : Cond.initialized "VaryStore$Items" ∈ TB := tb_in 34 (by decide +kernel) (by decide +kernel)
set_option maxRecDepth 20000 in
theorem w_123 : Cond.code ⟨"VaryStore$Items", "<init>", "()V"⟩ prog_2_method_1_code 1 none ∈ TB := tb_in 123 (by decide +kernel) (by decide +kernel)
set_option maxRecDepth 20000 in
theorem w_522 : Cond.methodLinkNest "VaryStore$Thing" 20 ⟨"VaryStore$Items", "<init>", "()V"⟩ "VaryStore" ∈ NB := nb_in 522 (by decide +kernel) (by decide +kernel)
set_option maxRecDepth 20000 in
theorem w_122 : Cond.instanceMethod ⟨"VaryStore$Items", "<init>", "()V"⟩ ∈ TB := tb_in 122 (by decide +kernel) (by decide +kernel)
set_option maxRecDepth 20000 in
theorem w_527 : Cond.fieldLink "VaryStore$Thing" 21 "VaryStore$Thing" "vary" "LVaryStore$Items;"  ∈ TB := tb_in 527 (by decide +kernel) (by decide +kernel)
set_option maxRecDepth 20000 in
theorem w_95 : Cond.instantiable "VaryStore$Text" 5 ∈ TB := tb_in 95 (by decide +kernel) (by decide +kernel)
set_option maxRecDepth 20000 in
theorem w_523 : Cond.classLink "VaryStore$Thing" 25 "VaryStore$Text" ∈ TB := tb_in 523 (by decide +kernel) (by decide +kernel)
set_option maxRecDepth 20000 in
theorem w_33 : Cond.initialized "VaryStore$Text" ∈ TB := tb_in 33 (by decide +kernel) (by decide +kernel)
set_option maxRecDepth 20000 in
theorem w_98 : Cond.code ⟨"VaryStore$Text", "<init>", "()V"⟩ prog_5_method_1_code 1 none ∈ TB := tb_in 98 (by decide +kernel) (by decide +kernel)
set_option maxRecDepth 20000 in
theorem w_524 : Cond.methodLinkNest "VaryStore$Thing" 27 ⟨"VaryStore$Text", "<init>", "()V"⟩ "VaryStore" ∈ NB := nb_in 524 (by decide +kernel) (by decide +kernel)
set_option maxRecDepth 20000 in
theorem w_97 : Cond.instanceMethod ⟨"VaryStore$Text", "<init>", "()V"⟩ ∈ TB := tb_in 97 (by decide +kernel) (by decide +kernel)
set_option maxRecDepth 20000 in
theorem w_529 : Cond.fieldLink "VaryStore$Thing" 28 "VaryStore$Thing" "request" "LVaryStore$Text;"  ∈ TB := tb_in 529 (by decide +kernel) (by decide +kernel)
set_option maxRecDepth 20000 in
theorem w_531 : Cond.fieldLink "VaryStore$Thing" 32 "VaryStore$Thing" "path" "I"  ∈ TB := tb_in 531 (by decide +kernel) (by decide +kernel)
set_option maxRecDepth 20000 in
theorem w_533 : Cond.fieldLink "VaryStore$Thing" 36 "VaryStore$Thing" "sharedMaxAge" "I"  ∈ TB := tb_in 533 (by decide +kernel) (by decide +kernel)
set_option maxRecDepth 20000 in
theorem w_535 : Cond.fieldLink "VaryStore$Thing" 39 "VaryStore$Thing" "maxAge" "I"  ∈ TB := tb_in 535 (by decide +kernel) (by decide +kernel)
set_option maxRecDepth 20000 in
theorem w_537 : Cond.fieldLink "VaryStore$Thing" 42 "VaryStore$Thing" "secret" "Z"  ∈ TB := tb_in 537 (by decide +kernel) (by decide +kernel)
set_option maxRecDepth 20000 in
theorem w_539 : Cond.fieldLink "VaryStore$Thing" 46 "VaryStore$Thing" "unsure" "Z"  ∈ TB := tb_in 539 (by decide +kernel) (by decide +kernel)
set_option maxRecDepth 20000 in
theorem w_540 : Cond.fieldLink "VaryStore$Thing" 49 "VaryStore$Thing" "strict" "Z"  ∈ TB := tb_in 540 (by decide +kernel) (by decide +kernel)
set_option maxRecDepth 20000 in
theorem w_542 : Cond.fieldLink "VaryStore$Thing" 52 "VaryStore$Thing" "life" "I"  ∈ TB := tb_in 542 (by decide +kernel) (by decide +kernel)
set_option maxRecDepth 20000 in
theorem w_544 : Cond.fieldLink "VaryStore$Thing" 55 "VaryStore$Thing" "age" "I"  ∈ TB := tb_in 544 (by decide +kernel) (by decide +kernel)
set_option maxRecDepth 20000 in
theorem w_546 : Cond.fieldLink "VaryStore$Thing" 58 "VaryStore$Thing" "since" "I"  ∈ TB := tb_in 546 (by decide +kernel) (by decide +kernel)
set_option maxRecDepth 20000 in
theorem w_548 : Cond.fieldLink "VaryStore$Thing" 61 "VaryStore$Thing" "used" "I"  ∈ TB := tb_in 548 (by decide +kernel) (by decide +kernel)
set_option maxRecDepth 20000 in
theorem w_55 : Cond.methodLink "VaryStore" 3 objectInit ∈ TB := tb_in 55 (by decide +kernel) (by decide +kernel)
set_option maxRecDepth 20000 in
theorem w_58 : Cond.classLink "VaryStore" 9 "VaryStore$Row" ∈ TB := tb_in 58 (by decide +kernel) (by decide +kernel)
set_option maxRecDepth 20000 in
theorem w_60 : Cond.methodLinkNest "VaryStore" 11 ⟨"VaryStore$Row", "<init>", "()V"⟩ "VaryStore" ∈ NB := nb_in 60 (by decide +kernel) (by decide +kernel)
set_option maxRecDepth 20000 in
theorem w_138 : Cond.fieldLink "VaryStore" 12 "VaryStore" "tape" "LVaryStore$Row;"  ∈ TB := tb_in 138 (by decide +kernel) (by decide +kernel)
set_option maxRecDepth 20000 in
theorem w_76 : Cond.instantiable "VaryStore$Shelf" 3 ∈ TB := tb_in 76 (by decide +kernel) (by decide +kernel)
set_option maxRecDepth 20000 in
theorem w_75 : Cond.classLink "VaryStore" 16 "VaryStore$Shelf" ∈ TB := tb_in 75 (by decide +kernel) (by decide +kernel)
set_option maxRecDepth 20000 in
theorem w_32 : Cond.initialized "VaryStore$Shelf" ∈ TB := tb_in 32 (by decide +kernel) (by decide +kernel)
set_option maxRecDepth 20000 in
theorem w_79 : Cond.code ⟨"VaryStore$Shelf", "<init>", "()V"⟩ prog_4_method_1_code 1 none ∈ TB := tb_in 79 (by decide +kernel) (by decide +kernel)
set_option maxRecDepth 20000 in
theorem w_77 : Cond.methodLinkNest "VaryStore" 18 ⟨"VaryStore$Shelf", "<init>", "()V"⟩ "VaryStore" ∈ NB := nb_in 77 (by decide +kernel) (by decide +kernel)
set_option maxRecDepth 20000 in
theorem w_78 : Cond.instanceMethod ⟨"VaryStore$Shelf", "<init>", "()V"⟩ ∈ TB := tb_in 78 (by decide +kernel) (by decide +kernel)
set_option maxRecDepth 20000 in
theorem w_139 : Cond.fieldLink "VaryStore" 19 "VaryStore" "shelf" "LVaryStore$Shelf;"  ∈ TB := tb_in 139 (by decide +kernel) (by decide +kernel)
set_option maxRecDepth 20000 in
theorem w_94 : Cond.classLink "VaryStore" 23 "VaryStore$Text" ∈ TB := tb_in 94 (by decide +kernel) (by decide +kernel)
set_option maxRecDepth 20000 in
theorem w_96 : Cond.methodLinkNest "VaryStore" 25 ⟨"VaryStore$Text", "<init>", "()V"⟩ "VaryStore" ∈ NB := nb_in 96 (by decide +kernel) (by decide +kernel)
set_option maxRecDepth 20000 in
theorem w_140 : Cond.fieldLink "VaryStore" 26 "VaryStore" "request" "LVaryStore$Text;"  ∈ TB := tb_in 140 (by decide +kernel) (by decide +kernel)
set_option maxRecDepth 20000 in
theorem w_141 : Cond.fieldLink "VaryStore" 30 "VaryStore" "draft" "LVaryStore$Text;"  ∈ TB := tb_in 141 (by decide +kernel) (by decide +kernel)
set_option maxRecDepth 20000 in
theorem w_142 : Cond.fieldLink "VaryStore" 33 "VaryStore" "faultPlace" "I"  ∈ TB := tb_in 142 (by decide +kernel) (by decide +kernel)
set_option maxRecDepth 20000 in
theorem w_143 : Cond.fieldLink "VaryStore" 37 "VaryStore" "time" "I"  ∈ TB := tb_in 143 (by decide +kernel) (by decide +kernel)
set_option maxRecDepth 20000 in
theorem w_144 : Cond.fieldLink "VaryStore" 40 "VaryStore" "name" "LVaryStore$Row;"  ∈ TB := tb_in 144 (by decide +kernel) (by decide +kernel)
set_option maxRecDepth 20000 in
theorem w_145 : Cond.fieldLink "VaryStore" 43 "VaryStore" "value" "LVaryStore$Row;"  ∈ TB := tb_in 145 (by decide +kernel) (by decide +kernel)
set_option maxRecDepth 20000 in
theorem w_119 : Cond.classLink "VaryStore" 46 "VaryStore$Items" ∈ TB := tb_in 119 (by decide +kernel) (by decide +kernel)
set_option maxRecDepth 20000 in
theorem w_121 : Cond.methodLinkNest "VaryStore" 48 ⟨"VaryStore$Items", "<init>", "()V"⟩ "VaryStore" ∈ NB := nb_in 121 (by decide +kernel) (by decide +kernel)
set_option maxRecDepth 20000 in
theorem w_146 : Cond.fieldLink "VaryStore" 49 "VaryStore" "words" "LVaryStore$Items;"  ∈ TB := tb_in 146 (by decide +kernel) (by decide +kernel)
set_option maxRecDepth 20000 in
theorem w_147 : Cond.fieldLink "VaryStore" 53 "VaryStore" "left" "LVaryStore$Items;"  ∈ TB := tb_in 147 (by decide +kernel) (by decide +kernel)
set_option maxRecDepth 20000 in
theorem w_148 : Cond.fieldLink "VaryStore" 56 "VaryStore" "right" "LVaryStore$Items;"  ∈ TB := tb_in 148 (by decide +kernel) (by decide +kernel)
set_option maxRecDepth 20000 in
theorem w_230 : Cond.methodLink "VaryStore$Row" 19 arraycopyName ∈ TB := tb_in 230 (by decide +kernel) (by decide +kernel)
set_option maxRecDepth 20000 in
theorem w_232 : Cond.native arraycopyName ∈ TB := tb_in 232 (by decide +kernel) (by decide +kernel)
set_option maxRecDepth 20000 in
theorem w_231 : Cond.static arraycopyName ∈ TB := tb_in 231 (by decide +kernel) (by decide +kernel)
set_option maxRecDepth 20000 in
theorem w_37 : Cond.initialized "java/lang/System" ∈ TB := tb_in 37 (by decide +kernel) (by decide +kernel)
set_option maxRecDepth 100000 in
theorem uw_Ro : ∀ w ∈ u_ws R_Ro F_Ro 2, w ∈ TB := by decide +kernel
set_option maxRecDepth 100000 in
theorem fa_Ro_9 : FA "VaryStore$Row" 9 2 0 R_Ro F_Ro 2 t_Ro := ⟨rfl, uw_Ro, by decide, to_Ro, n_Ro, Or.inl w_64⟩
set_option maxRecDepth 100000 in
theorem fa_Ro_15 : FA "VaryStore$Row" 15 2 1 R_Ro F_Ro 2 t_Ro := ⟨rfl, uw_Ro, by decide, to_Ro, n_Ro, Or.inl w_65⟩
set_option maxRecDepth 100000 in
theorem uw_It : ∀ w ∈ u_ws R_It F_It 3, w ∈ TB := by decide +kernel
set_option maxRecDepth 100000 in
theorem fa_It_12 : FA "VaryStore$Items" 12 1 0 R_It F_It 3 t_It := ⟨rfl, uw_It, by decide, to_It, n_It, Or.inl w_127⟩
set_option maxRecDepth 100000 in
theorem fa_It_18 : FA "VaryStore$Items" 18 1 1 R_It F_It 3 t_It := ⟨rfl, uw_It, by decide, to_It, n_It, Or.inl w_128⟩
set_option maxRecDepth 100000 in
theorem fa_It_22 : FA "VaryStore$Items" 22 1 2 R_It F_It 3 t_It := ⟨rfl, uw_It, by decide, to_It, n_It, Or.inl w_129⟩
set_option maxRecDepth 100000 in
theorem uw_Te : ∀ w ∈ u_ws R_Te F_Te 5, w ∈ TB := by decide +kernel
set_option maxRecDepth 100000 in
theorem fa_Te_12 : FA "VaryStore$Text" 12 4 0 R_Te F_Te 5 t_Te := ⟨rfl, uw_Te, by decide, to_Te, n_Te, Or.inl w_102⟩
set_option maxRecDepth 100000 in
theorem fa_Te_18 : FA "VaryStore$Text" 18 4 1 R_Te F_Te 5 t_Te := ⟨rfl, uw_Te, by decide, to_Te, n_Te, Or.inl w_103⟩
set_option maxRecDepth 100000 in
theorem fa_Te_22 : FA "VaryStore$Text" 22 4 2 R_Te F_Te 5 t_Te := ⟨rfl, uw_Te, by decide, to_Te, n_Te, Or.inl w_104⟩
set_option maxRecDepth 100000 in
theorem fa_Te_25 : FA "VaryStore$Text" 25 4 3 R_Te F_Te 5 t_Te := ⟨rfl, uw_Te, by decide, to_Te, n_Te, Or.inl w_105⟩
set_option maxRecDepth 100000 in
theorem fa_Te_28 : FA "VaryStore$Text" 28 4 4 R_Te F_Te 5 t_Te := ⟨rfl, uw_Te, by decide, to_Te, n_Te, Or.inl w_106⟩
set_option maxRecDepth 100000 in
theorem uw_Sh : ∀ w ∈ u_ws R_Sh F_Sh 3, w ∈ TB := by decide +kernel
set_option maxRecDepth 100000 in
theorem fa_Sh_11 : FA "VaryStore$Shelf" 11 3 0 R_Sh F_Sh 3 t_Sh := ⟨rfl, uw_Sh, by decide, to_Sh, n_Sh, Or.inl w_83⟩
set_option maxRecDepth 100000 in
theorem fa_Sh_17 : FA "VaryStore$Shelf" 17 3 1 R_Sh F_Sh 3 t_Sh := ⟨rfl, uw_Sh, by decide, to_Sh, n_Sh, Or.inl w_84⟩
set_option maxRecDepth 100000 in
theorem fa_Sh_21 : FA "VaryStore$Shelf" 21 3 2 R_Sh F_Sh 3 t_Sh := ⟨rfl, uw_Sh, by decide, to_Sh, n_Sh, Or.inl w_86⟩
set_option maxRecDepth 100000 in
theorem uw_Th : ∀ w ∈ u_ws R_Th F_Th 13, w ∈ TB := by decide +kernel
set_option maxRecDepth 100000 in
theorem fa_Th_12 : FA "VaryStore$Thing" 12 5 0 R_Th F_Th 13 t_Th := ⟨rfl, uw_Th, by decide, to_Th, n_Th, Or.inl w_525⟩
set_option maxRecDepth 100000 in
theorem fa_Th_21 : FA "VaryStore$Thing" 21 5 1 R_Th F_Th 13 t_Th := ⟨rfl, uw_Th, by decide, to_Th, n_Th, Or.inl w_527⟩
set_option maxRecDepth 100000 in
theorem fa_Th_28 : FA "VaryStore$Thing" 28 5 2 R_Th F_Th 13 t_Th := ⟨rfl, uw_Th, by decide, to_Th, n_Th, Or.inl w_529⟩
set_option maxRecDepth 100000 in
theorem fa_Th_32 : FA "VaryStore$Thing" 32 5 3 R_Th F_Th 13 t_Th := ⟨rfl, uw_Th, by decide, to_Th, n_Th, Or.inl w_531⟩
set_option maxRecDepth 100000 in
theorem fa_Th_36 : FA "VaryStore$Thing" 36 5 4 R_Th F_Th 13 t_Th := ⟨rfl, uw_Th, by decide, to_Th, n_Th, Or.inl w_533⟩
set_option maxRecDepth 100000 in
theorem fa_Th_39 : FA "VaryStore$Thing" 39 5 5 R_Th F_Th 13 t_Th := ⟨rfl, uw_Th, by decide, to_Th, n_Th, Or.inl w_535⟩
set_option maxRecDepth 100000 in
theorem fa_Th_42 : FA "VaryStore$Thing" 42 5 6 R_Th F_Th 13 t_Th := ⟨rfl, uw_Th, by decide, to_Th, n_Th, Or.inl w_537⟩
set_option maxRecDepth 100000 in
theorem fa_Th_46 : FA "VaryStore$Thing" 46 5 7 R_Th F_Th 13 t_Th := ⟨rfl, uw_Th, by decide, to_Th, n_Th, Or.inl w_539⟩
set_option maxRecDepth 100000 in
theorem fa_Th_49 : FA "VaryStore$Thing" 49 5 8 R_Th F_Th 13 t_Th := ⟨rfl, uw_Th, by decide, to_Th, n_Th, Or.inl w_540⟩
set_option maxRecDepth 100000 in
theorem fa_Th_52 : FA "VaryStore$Thing" 52 5 9 R_Th F_Th 13 t_Th := ⟨rfl, uw_Th, by decide, to_Th, n_Th, Or.inl w_542⟩
set_option maxRecDepth 100000 in
theorem fa_Th_55 : FA "VaryStore$Thing" 55 5 10 R_Th F_Th 13 t_Th := ⟨rfl, uw_Th, by decide, to_Th, n_Th, Or.inl w_544⟩
set_option maxRecDepth 100000 in
theorem fa_Th_58 : FA "VaryStore$Thing" 58 5 11 R_Th F_Th 13 t_Th := ⟨rfl, uw_Th, by decide, to_Th, n_Th, Or.inl w_546⟩
set_option maxRecDepth 100000 in
theorem fa_Th_61 : FA "VaryStore$Thing" 61 5 12 R_Th F_Th 13 t_Th := ⟨rfl, uw_Th, by decide, to_Th, n_Th, Or.inl w_548⟩
set_option maxRecDepth 100000 in
theorem uw_VS : ∀ w ∈ u_ws R_VS F_VS 11, w ∈ TB := by decide +kernel
set_option maxRecDepth 100000 in
theorem fa_VS_12 : FA "VaryStore" 12 0 0 R_VS F_VS 11 t_VS := ⟨rfl, uw_VS, by decide, to_VS, n_VS, Or.inl w_138⟩
set_option maxRecDepth 100000 in
theorem fa_VS_19 : FA "VaryStore" 19 0 1 R_VS F_VS 11 t_VS := ⟨rfl, uw_VS, by decide, to_VS, n_VS, Or.inl w_139⟩
set_option maxRecDepth 100000 in
theorem fa_VS_26 : FA "VaryStore" 26 0 2 R_VS F_VS 11 t_VS := ⟨rfl, uw_VS, by decide, to_VS, n_VS, Or.inl w_140⟩
set_option maxRecDepth 100000 in
theorem fa_VS_30 : FA "VaryStore" 30 0 3 R_VS F_VS 11 t_VS := ⟨rfl, uw_VS, by decide, to_VS, n_VS, Or.inl w_141⟩
set_option maxRecDepth 100000 in
theorem fa_VS_33 : FA "VaryStore" 33 0 4 R_VS F_VS 11 t_VS := ⟨rfl, uw_VS, by decide, to_VS, n_VS, Or.inl w_142⟩
set_option maxRecDepth 100000 in
theorem fa_VS_37 : FA "VaryStore" 37 0 5 R_VS F_VS 11 t_VS := ⟨rfl, uw_VS, by decide, to_VS, n_VS, Or.inl w_143⟩
set_option maxRecDepth 100000 in
theorem fa_VS_40 : FA "VaryStore" 40 0 6 R_VS F_VS 11 t_VS := ⟨rfl, uw_VS, by decide, to_VS, n_VS, Or.inl w_144⟩
set_option maxRecDepth 100000 in
theorem fa_VS_43 : FA "VaryStore" 43 0 7 R_VS F_VS 11 t_VS := ⟨rfl, uw_VS, by decide, to_VS, n_VS, Or.inl w_145⟩
set_option maxRecDepth 100000 in
theorem fa_VS_49 : FA "VaryStore" 49 0 8 R_VS F_VS 11 t_VS := ⟨rfl, uw_VS, by decide, to_VS, n_VS, Or.inl w_146⟩
set_option maxRecDepth 100000 in
theorem fa_VS_53 : FA "VaryStore" 53 0 9 R_VS F_VS 11 t_VS := ⟨rfl, uw_VS, by decide, to_VS, n_VS, Or.inl w_147⟩
set_option maxRecDepth 100000 in
theorem fa_VS_56 : FA "VaryStore" 56 0 10 R_VS F_VS 11 t_VS := ⟨rfl, uw_VS, by decide, to_VS, n_VS, Or.inl w_148⟩
def k_Ro_init : MS := ("VaryStore$Row", b_Ro_init, 1, none, "<init>", { frames := 1, cells := 1, slots := 300, locals := 12 }, [])
set_option maxRecDepth 100000 in
set_option maxHeartbeats 4000000 in
theorem c_Ro_init (Γ : GE) (a : Nat) {M : HM}  (p0 : M (a) = some (.inr (2, [.null, .int (iI (0))]))) : CT Γ k_Ro_init y_Ro_init [.ref (a)] M (a + 1) (fun v M' n' => a + 2 = n' ∧ (∀ q, q ≠ a + 1 → q ≠ a → M' q = M q) ∧ v = none ∧ M' (a + 1) = some (.inl (Γ.2.2.1 0, 300, .inl (fun _ => iI 0))) ∧ M' (a) = some (.inr (2, [.ref (a + 1), .int (iI (0))]))) := by
  refine CT.of (by decide) rfl rfl 0 rfl (Nat.le_of_ble_eq_true rfl) rfl ?_
  refine g_aload_n d_Ro_init_0 rfl ?_
  refine g_objInit d_Ro_init_1 w_63 w_56 w_57 (by decide) (Nat.le_of_ble_eq_true rfl) ?_
  refine g_aload_n d_Ro_init_4 rfl ?_
  refine g_sipush d_Ro_init_5 (by decide) ?_
  refine g_newac (k := 300) d_Ro_init_8 w_74 (by decide) (by decide) (by decide) ?_
  refine g_putF fa_Ro_9 d_Ro_init_10 ((hu_ne (by omega)).trans p0) (Nat.le_of_ble_eq_true rfl) rfl w_64 rfl rfl rfl rfl ?_
  refine g_aload_n d_Ro_init_13 rfl ?_
  refine g_iconst d_Ro_init_14 ?_
  refine g_put fa_Ro_15 d_Ro_init_15 (hu_same _ _ _) (Nat.le_of_ble_eq_true rfl) rfl rfl rfl ?_
  refine g_vret d_Ro_init_18 rfl ?_ (by decide) (by decide)
  exact ⟨rfl, fun q e0 e1 => ((hu_ne (by omega)).trans ((hu_ne (by omega)).trans ((hu_ne (by omega)).trans rfl))), rfl, ((hu_ne (by omega)).trans ((hu_ne (by omega)).trans (hu_same _ _ _))), (hu_same _ _ _)⟩
def k_It_init : MS := ("VaryStore$Items", b_It_init, 1, none, "<init>", { frames := 2, cells := 3, slots := 452, locals := 32 }, [])
set_option maxRecDepth 100000 in
set_option maxHeartbeats 4000000 in
theorem c_It_init (Γ : GE) (a : Nat) {M : HM}  (p0 : M (a) = some (.inr (1, [.null, .null, .int (iI (0))]))) : CT Γ k_It_init y_It_init [.ref (a)] M (a + 1) (fun v M' n' => a + 4 = n' ∧ (∀ q, q ≠ a + 1 → q ≠ a + 2 → q ≠ a → q ≠ a + 3 → M' q = M q) ∧ v = none ∧ M' (a + 1) = some (.inr (2, [.ref (a + 2), .int (iI (0))])) ∧ M' (a + 2) = some (.inl (Γ.2.2.1 0, 300, .inl (fun _ => iI 0))) ∧ M' (a) = some (.inr (1, [.ref (a + 1), .ref (a + 3), .int (iI (0))])) ∧ M' (a + 3) = some (.inl (Γ.2.2.1 1, 150, .inl (fun _ => iI 0)))) := by
  refine CT.of (by decide) rfl rfl 0 rfl (Nat.le_of_ble_eq_true rfl) rfl ?_
  refine g_aload_n d_It_init_0 rfl ?_
  refine g_objInit d_It_init_1 w_124 w_56 w_57 (by decide) (Nat.le_of_ble_eq_true rfl) ?_
  refine g_aload_n d_It_init_4 rfl ?_
  refine g_new (ci := 2) t_Ro [.null, .int (iI (0))] rfl uw_Ro to_Ro (fun j hj => by rcases (show j = 0 ∨ j = 1 by omega) with rfl | rfl <;> rfl) d_It_init_5 w_125 w_59 w_31 (by decide) (by decide) ?_
  refine g_dup d_It_init_8 rfl ?_
  refine g_callIN0 (ν := k_Ro_init) ⟨⟨"VaryStore", w_126⟩, w_31, w_62, by decide, by decide, by decide +kernel⟩ w_61 rfl rfl (c_Ro_init Γ (a + 1)  (hu_same _ _ _)) d_It_init_9 ⟨⟨by decide, by decide⟩, ⟨by decide, by decide⟩⟩ (Nat.le_of_ble_eq_true rfl) (fun v1 M1 n1 hQ1 hn1 hd1 => ?_)
  obtain ⟨rfl, hf1, rfl, hw1_0, hw1_1⟩ := hQ1
  refine g_putF fa_It_12 d_It_init_12 ((hf1 (a) (by omega) (by omega)).trans ((hu_ne (by omega)).trans p0)) (Nat.le_of_ble_eq_true rfl) rfl w_127 rfl rfl rfl rfl ?_
  refine g_aload_n d_It_init_15 rfl ?_
  refine g_sipush d_It_init_16 (by decide) ?_
  refine g_newai (k := 150) d_It_init_19 w_118 (by decide) (by decide) (by decide) ?_
  refine g_putF fa_It_18 d_It_init_21 ((hu_ne (by omega)).trans (hu_same _ _ _)) (Nat.le_of_ble_eq_true rfl) rfl w_128 rfl rfl rfl rfl ?_
  refine g_aload_n d_It_init_24 rfl ?_
  refine g_iconst d_It_init_25 ?_
  refine g_put fa_It_22 d_It_init_26 (hu_same _ _ _) (Nat.le_of_ble_eq_true rfl) rfl rfl rfl ?_
  refine g_vret d_It_init_29 rfl ?_ (by decide) (by decide)
  exact ⟨rfl, fun q e0 e1 e2 e3 => ((hu_ne (by omega)).trans ((hu_ne (by omega)).trans ((hu_ne (by omega)).trans ((hu_ne (by omega)).trans ((hf1 q (by omega) (by omega)).trans ((hu_ne (by omega)).trans rfl)))))), rfl, ((hu_ne (by omega)).trans ((hu_ne (by omega)).trans ((hu_ne (by omega)).trans ((hu_ne (by omega)).trans hw1_1)))), ((hu_ne (by omega)).trans ((hu_ne (by omega)).trans ((hu_ne (by omega)).trans ((hu_ne (by omega)).trans hw1_0)))), (hu_same _ _ _), ((hu_ne (by omega)).trans ((hu_ne (by omega)).trans (hu_same _ _ _)))⟩
def k_Te_init : MS := ("VaryStore$Text", b_Te_init, 1, none, "<init>", { frames := 2, cells := 5, slots := 602, locals := 32 }, [])
set_option maxRecDepth 100000 in
set_option maxHeartbeats 4000000 in
theorem c_Te_init (Γ : GE) (a : Nat) {M : HM}  (p0 : M (a) = some (.inr (4, [.null, .null, .null, .null, .int (iI (0))]))) : CT Γ k_Te_init y_Te_init [.ref (a)] M (a + 1) (fun v M' n' => a + 6 = n' ∧ (∀ q, q ≠ a + 1 → q ≠ a + 2 → q ≠ a → q ≠ a + 3 → q ≠ a + 4 → q ≠ a + 5 → M' q = M q) ∧ v = none ∧ M' (a + 1) = some (.inr (2, [.ref (a + 2), .int (iI (0))])) ∧ M' (a + 2) = some (.inl (Γ.2.2.1 0, 300, .inl (fun _ => iI 0))) ∧ M' (a) = some (.inr (4, [.ref (a + 1), .ref (a + 3), .ref (a + 4), .ref (a + 5), .int (iI (0))])) ∧ M' (a + 3) = some (.inl (Γ.2.2.1 1, 100, .inl (fun _ => iI 0))) ∧ M' (a + 4) = some (.inl (Γ.2.2.1 1, 100, .inl (fun _ => iI 0))) ∧ M' (a + 5) = some (.inl (Γ.2.2.1 1, 100, .inl (fun _ => iI 0)))) := by
  refine CT.of (by decide) rfl rfl 0 rfl (Nat.le_of_ble_eq_true rfl) rfl ?_
  refine g_aload_n d_Te_init_0 rfl ?_
  refine g_objInit d_Te_init_1 w_99 w_56 w_57 (by decide) (Nat.le_of_ble_eq_true rfl) ?_
  refine g_aload_n d_Te_init_4 rfl ?_
  refine g_new (ci := 2) t_Ro [.null, .int (iI (0))] rfl uw_Ro to_Ro (fun j hj => by rcases (show j = 0 ∨ j = 1 by omega) with rfl | rfl <;> rfl) d_Te_init_5 w_100 w_59 w_31 (by decide) (by decide) ?_
  refine g_dup d_Te_init_8 rfl ?_
  refine g_callIN0 (ν := k_Ro_init) ⟨⟨"VaryStore", w_101⟩, w_31, w_62, by decide, by decide, by decide +kernel⟩ w_61 rfl rfl (c_Ro_init Γ (a + 1)  (hu_same _ _ _)) d_Te_init_9 ⟨⟨by decide, by decide⟩, ⟨by decide, by decide⟩⟩ (Nat.le_of_ble_eq_true rfl) (fun v1 M1 n1 hQ1 hn1 hd1 => ?_)
  obtain ⟨rfl, hf1, rfl, hw1_0, hw1_1⟩ := hQ1
  refine g_putF fa_Te_12 d_Te_init_12 ((hf1 (a) (by omega) (by omega)).trans ((hu_ne (by omega)).trans p0)) (Nat.le_of_ble_eq_true rfl) rfl w_102 rfl rfl rfl rfl ?_
  refine g_aload_n d_Te_init_15 rfl ?_
  refine g_bipush d_Te_init_16 (by decide) ?_
  refine g_newai (k := 100) d_Te_init_18 w_118 (by decide) (by decide) (by decide) ?_
  refine g_putF fa_Te_18 d_Te_init_20 ((hu_ne (by omega)).trans (hu_same _ _ _)) (Nat.le_of_ble_eq_true rfl) rfl w_103 rfl rfl rfl rfl ?_
  refine g_aload_n d_Te_init_23 rfl ?_
  refine g_bipush d_Te_init_24 (by decide) ?_
  refine g_newai (k := 100) d_Te_init_26 w_118 (by decide) (by decide) (by decide) ?_
  refine g_putF fa_Te_22 d_Te_init_28 ((hu_ne (by omega)).trans (hu_same _ _ _)) (Nat.le_of_ble_eq_true rfl) rfl w_104 rfl rfl rfl rfl ?_
  refine g_aload_n d_Te_init_31 rfl ?_
  refine g_bipush d_Te_init_32 (by decide) ?_
  refine g_newai (k := 100) d_Te_init_34 w_118 (by decide) (by decide) (by decide) ?_
  refine g_putF fa_Te_25 d_Te_init_36 ((hu_ne (by omega)).trans (hu_same _ _ _)) (Nat.le_of_ble_eq_true rfl) rfl w_105 rfl rfl rfl rfl ?_
  refine g_aload_n d_Te_init_39 rfl ?_
  refine g_iconst d_Te_init_40 ?_
  refine g_put fa_Te_28 d_Te_init_41 (hu_same _ _ _) (Nat.le_of_ble_eq_true rfl) rfl rfl rfl ?_
  refine g_vret d_Te_init_44 rfl ?_ (by decide) (by decide)
  exact ⟨rfl, fun q e0 e1 e2 e3 e4 e5 => ((hu_ne (by omega)).trans ((hu_ne (by omega)).trans ((hu_ne (by omega)).trans ((hu_ne (by omega)).trans ((hu_ne (by omega)).trans ((hu_ne (by omega)).trans ((hu_ne (by omega)).trans ((hu_ne (by omega)).trans ((hf1 q (by omega) (by omega)).trans ((hu_ne (by omega)).trans rfl)))))))))), rfl, ((hu_ne (by omega)).trans ((hu_ne (by omega)).trans ((hu_ne (by omega)).trans ((hu_ne (by omega)).trans ((hu_ne (by omega)).trans ((hu_ne (by omega)).trans ((hu_ne (by omega)).trans ((hu_ne (by omega)).trans hw1_1)))))))), ((hu_ne (by omega)).trans ((hu_ne (by omega)).trans ((hu_ne (by omega)).trans ((hu_ne (by omega)).trans ((hu_ne (by omega)).trans ((hu_ne (by omega)).trans ((hu_ne (by omega)).trans ((hu_ne (by omega)).trans hw1_0)))))))), (hu_same _ _ _), ((hu_ne (by omega)).trans ((hu_ne (by omega)).trans ((hu_ne (by omega)).trans ((hu_ne (by omega)).trans ((hu_ne (by omega)).trans ((hu_ne (by omega)).trans (hu_same _ _ _))))))), ((hu_ne (by omega)).trans ((hu_ne (by omega)).trans ((hu_ne (by omega)).trans ((hu_ne (by omega)).trans (hu_same _ _ _))))), ((hu_ne (by omega)).trans ((hu_ne (by omega)).trans (hu_same _ _ _)))⟩
def k_Sh_init : MS := ("VaryStore$Shelf", b_Sh_init, 1, none, "<init>", { frames := 1, cells := 1, slots := 25, locals := 12 }, [])
set_option maxRecDepth 100000 in
set_option maxHeartbeats 4000000 in
theorem c_Sh_init (Γ : GE) (a : Nat) {M : HM}  (p0 : M (a) = some (.inr (3, [.null, .int (iI (0)), .int (iI (0))]))) : CT Γ k_Sh_init y_Sh_init [.ref (a)] M (a + 1) (fun v M' n' => a + 2 = n' ∧ (∀ q, q ≠ a + 1 → q ≠ a → M' q = M q) ∧ v = none ∧ M' (a + 1) = some (.inl (Γ.2.2.1 2, 25, .inr (.inr (.inr (.inr (fun _ => none)))))) ∧ M' (a) = some (.inr (3, [.ref (a + 1), .int (iI (0)), .int (iI (0))]))) := by
  refine CT.of (by decide) rfl rfl 0 rfl (Nat.le_of_ble_eq_true rfl) rfl ?_
  refine g_aload_n d_Sh_init_0 rfl ?_
  refine g_objInit d_Sh_init_1 w_80 w_56 w_57 (by decide) (Nat.le_of_ble_eq_true rfl) ?_
  refine g_aload_n d_Sh_init_4 rfl ?_
  refine g_bipush d_Sh_init_5 (by decide) ?_
  refine g_anew (k := 25) 2 rfl d_Sh_init_7 w_81 w_82 (by decide) (by decide) (by decide) ?_
  refine g_putF fa_Sh_11 d_Sh_init_10 ((hu_ne (by omega)).trans p0) (Nat.le_of_ble_eq_true rfl) rfl w_83 rfl rfl rfl rfl ?_
  refine g_aload_n d_Sh_init_13 rfl ?_
  refine g_iconst d_Sh_init_14 ?_
  refine g_put fa_Sh_17 d_Sh_init_15 (hu_same _ _ _) (Nat.le_of_ble_eq_true rfl) rfl rfl rfl ?_
  refine g_aload_n d_Sh_init_18 rfl ?_
  refine g_iconst d_Sh_init_19 ?_
  refine g_put fa_Sh_21 d_Sh_init_20 (hu_same _ _ _) (Nat.le_of_ble_eq_true rfl) rfl rfl rfl ?_
  refine g_vret d_Sh_init_23 rfl ?_ (by decide) (by decide)
  exact ⟨rfl, fun q e0 e1 => ((hu_ne (by omega)).trans ((hu_ne (by omega)).trans ((hu_ne (by omega)).trans ((hu_ne (by omega)).trans rfl)))), rfl, ((hu_ne (by omega)).trans ((hu_ne (by omega)).trans ((hu_ne (by omega)).trans (hu_same _ _ _)))), (hu_same _ _ _)⟩
def k_Th_init : MS := ("VaryStore$Thing", b_Th_init, 1, none, "<init>", { frames := 3, cells := 12, slots := 1364, locals := 52 }, [])
set_option maxRecDepth 100000 in
set_option maxHeartbeats 4000000 in
theorem c_Th_init (Γ : GE) (a : Nat) {M : HM}  (p0 : M (a) = some (.inr (5, [.null, .null, .null, .int (iI (0)), .int (iI (0)), .int (iI (0)), .int (iI (0)), .int (iI (0)), .int (iI (0)), .int (iI (0)), .int (iI (0)), .int (iI (0)), .int (iI (0))]))) : CT Γ k_Th_init y_Th_init [.ref (a)] M (a + 1) (fun v M' n' => a + 13 = n' ∧ (∀ q, q ≠ a + 1 → q ≠ a + 2 → q ≠ a → q ≠ a + 3 → q ≠ a + 4 → q ≠ a + 5 → q ≠ a + 6 → q ≠ a + 7 → q ≠ a + 8 → q ≠ a + 9 → q ≠ a + 10 → q ≠ a + 11 → q ≠ a + 12 → M' q = M q) ∧ v = none ∧ M' (a + 1) = some (.inr (2, [.ref (a + 2), .int (iI (0))])) ∧ M' (a + 2) = some (.inl (Γ.2.2.1 0, 300, .inl (fun _ => iI 0))) ∧ M' (a) = some (.inr (5, [.ref (a + 1), .ref (a + 3), .ref (a + 7), .int (iI (0)), .int (iI ((-2))), .int (iI ((-2))), .int (iI (0)), .int (iI (0)), .int (iI (0)), .int (iI (0)), .int (iI (0)), .int (iI (0)), .int (iI (0))])) ∧ M' (a + 3) = some (.inr (1, [.ref (a + 4), .ref (a + 6), .int (iI (0))])) ∧ M' (a + 4) = some (.inr (2, [.ref (a + 5), .int (iI (0))])) ∧ M' (a + 5) = some (.inl (Γ.2.2.1 0, 300, .inl (fun _ => iI 0))) ∧ M' (a + 6) = some (.inl (Γ.2.2.1 1, 150, .inl (fun _ => iI 0))) ∧ M' (a + 7) = some (.inr (4, [.ref (a + 8), .ref (a + 10), .ref (a + 11), .ref (a + 12), .int (iI (0))])) ∧ M' (a + 8) = some (.inr (2, [.ref (a + 9), .int (iI (0))])) ∧ M' (a + 9) = some (.inl (Γ.2.2.1 0, 300, .inl (fun _ => iI 0))) ∧ M' (a + 10) = some (.inl (Γ.2.2.1 1, 100, .inl (fun _ => iI 0))) ∧ M' (a + 11) = some (.inl (Γ.2.2.1 1, 100, .inl (fun _ => iI 0))) ∧ M' (a + 12) = some (.inl (Γ.2.2.1 1, 100, .inl (fun _ => iI 0)))) := by
  refine CT.of (by decide) rfl rfl 0 rfl (Nat.le_of_ble_eq_true rfl) rfl ?_
  refine g_aload_n d_Th_init_0 rfl ?_
  refine g_objInit d_Th_init_1 w_518 w_56 w_57 (by decide) (Nat.le_of_ble_eq_true rfl) ?_
  refine g_aload_n d_Th_init_4 rfl ?_
  refine g_new (ci := 2) t_Ro [.null, .int (iI (0))] rfl uw_Ro to_Ro (fun j hj => by rcases (show j = 0 ∨ j = 1 by omega) with rfl | rfl <;> rfl) d_Th_init_5 w_519 w_59 w_31 (by decide) (by decide) ?_
  refine g_dup d_Th_init_8 rfl ?_
  refine g_callIN0 (ν := k_Ro_init) ⟨⟨"VaryStore", w_520⟩, w_31, w_62, by decide, by decide, by decide +kernel⟩ w_61 rfl rfl (c_Ro_init Γ (a + 1)  (hu_same _ _ _)) d_Th_init_9 ⟨⟨by decide, by decide⟩, ⟨by decide, by decide⟩⟩ (Nat.le_of_ble_eq_true rfl) (fun v1 M1 n1 hQ1 hn1 hd1 => ?_)
  obtain ⟨rfl, hf1, rfl, hw1_0, hw1_1⟩ := hQ1
  refine g_putF fa_Th_12 d_Th_init_12 ((hf1 (a) (by omega) (by omega)).trans ((hu_ne (by omega)).trans p0)) (Nat.le_of_ble_eq_true rfl) rfl w_525 rfl rfl rfl rfl ?_
  refine g_aload_n d_Th_init_15 rfl ?_
  refine g_new (ci := 1) t_It [.null, .null, .int (iI (0))] rfl uw_It to_It (fun j hj => by rcases (show j = 0 ∨ j = 1 ∨ j = 2 by omega) with rfl | rfl | rfl <;> rfl) d_Th_init_16 w_521 w_120 w_34 (by decide) (by decide) ?_
  refine g_dup d_Th_init_19 rfl ?_
  refine g_callIN0 (ν := k_It_init) ⟨⟨"VaryStore", w_522⟩, w_34, w_123, by decide, by decide, by decide +kernel⟩ w_122 rfl rfl (c_It_init Γ (a + 3)  (hu_same _ _ _)) d_Th_init_20 ⟨⟨by decide, by decide⟩, ⟨by decide, by decide⟩⟩ (Nat.le_of_ble_eq_true rfl) (fun v2 M2 n2 hQ2 hn2 hd2 => ?_)
  obtain ⟨rfl, hf2, rfl, hw2_0, hw2_1, hw2_2, hw2_3⟩ := hQ2
  refine g_putF fa_Th_21 d_Th_init_23 ((hf2 (a) (by omega) (by omega) (by omega) (by omega)).trans ((hu_ne (by omega)).trans (hu_same _ _ _))) (Nat.le_of_ble_eq_true rfl) rfl w_527 rfl rfl rfl rfl ?_
  refine g_aload_n d_Th_init_26 rfl ?_
  refine g_new (ci := 4) t_Te [.null, .null, .null, .null, .int (iI (0))] rfl uw_Te to_Te (fun j hj => by rcases (show j = 0 ∨ j = 1 ∨ j = 2 ∨ j = 3 ∨ j = 4 by omega) with rfl | rfl | rfl | rfl | rfl <;> rfl) d_Th_init_27 w_523 w_95 w_33 (by decide) (by decide) ?_
  refine g_dup d_Th_init_30 rfl ?_
  refine g_callIN0 (ν := k_Te_init) ⟨⟨"VaryStore", w_524⟩, w_33, w_98, by decide, by decide, by decide +kernel⟩ w_97 rfl rfl (c_Te_init Γ (a + 7)  (hu_same _ _ _)) d_Th_init_31 ⟨⟨by decide, by decide⟩, ⟨by decide, by decide⟩⟩ (Nat.le_of_ble_eq_true rfl) (fun v3 M3 n3 hQ3 hn3 hd3 => ?_)
  obtain ⟨rfl, hf3, rfl, hw3_0, hw3_1, hw3_2, hw3_3, hw3_4, hw3_5⟩ := hQ3
  refine g_putF fa_Th_28 d_Th_init_34 ((hf3 (a) (by omega) (by omega) (by omega) (by omega) (by omega) (by omega)).trans ((hu_ne (by omega)).trans (hu_same _ _ _))) (Nat.le_of_ble_eq_true rfl) rfl w_529 rfl rfl rfl rfl ?_
  refine g_aload_n d_Th_init_37 rfl ?_
  refine g_iconst d_Th_init_38 ?_
  refine g_put fa_Th_32 d_Th_init_39 (hu_same _ _ _) (Nat.le_of_ble_eq_true rfl) rfl rfl rfl ?_
  refine g_aload_n d_Th_init_42 rfl ?_
  refine g_bipush d_Th_init_43 (by decide) ?_
  refine g_put fa_Th_36 d_Th_init_45 (hu_same _ _ _) (Nat.le_of_ble_eq_true rfl) rfl rfl rfl ?_
  refine g_aload_n d_Th_init_48 rfl ?_
  refine g_bipush d_Th_init_49 (by decide) ?_
  refine g_put fa_Th_39 d_Th_init_51 (hu_same _ _ _) (Nat.le_of_ble_eq_true rfl) rfl rfl rfl ?_
  refine g_aload_n d_Th_init_54 rfl ?_
  refine g_iconst d_Th_init_55 ?_
  refine g_put fa_Th_42 d_Th_init_56 (hu_same _ _ _) (Nat.le_of_ble_eq_true rfl) rfl (by first | rfl | decide) rfl ?_
  refine g_aload_n d_Th_init_59 rfl ?_
  refine g_iconst d_Th_init_60 ?_
  refine g_put fa_Th_46 d_Th_init_61 (hu_same _ _ _) (Nat.le_of_ble_eq_true rfl) rfl (by first | rfl | decide) rfl ?_
  refine g_aload_n d_Th_init_64 rfl ?_
  refine g_iconst d_Th_init_65 ?_
  refine g_put fa_Th_49 d_Th_init_66 (hu_same _ _ _) (Nat.le_of_ble_eq_true rfl) rfl (by first | rfl | decide) rfl ?_
  refine g_aload_n d_Th_init_69 rfl ?_
  refine g_iconst d_Th_init_70 ?_
  refine g_put fa_Th_52 d_Th_init_71 (hu_same _ _ _) (Nat.le_of_ble_eq_true rfl) rfl rfl rfl ?_
  refine g_aload_n d_Th_init_74 rfl ?_
  refine g_iconst d_Th_init_75 ?_
  refine g_put fa_Th_55 d_Th_init_76 (hu_same _ _ _) (Nat.le_of_ble_eq_true rfl) rfl rfl rfl ?_
  refine g_aload_n d_Th_init_79 rfl ?_
  refine g_iconst d_Th_init_80 ?_
  refine g_put fa_Th_58 d_Th_init_81 (hu_same _ _ _) (Nat.le_of_ble_eq_true rfl) rfl rfl rfl ?_
  refine g_aload_n d_Th_init_84 rfl ?_
  refine g_iconst d_Th_init_85 ?_
  refine g_put fa_Th_61 d_Th_init_86 (hu_same _ _ _) (Nat.le_of_ble_eq_true rfl) rfl rfl rfl ?_
  refine g_vret d_Th_init_89 rfl ?_ (by decide) (by decide)
  exact ⟨rfl, fun q e0 e1 e2 e3 e4 e5 e6 e7 e8 e9 e10 e11 e12 => ((hu_ne (by omega)).trans ((hu_ne (by omega)).trans ((hu_ne (by omega)).trans ((hu_ne (by omega)).trans ((hu_ne (by omega)).trans ((hu_ne (by omega)).trans ((hu_ne (by omega)).trans ((hu_ne (by omega)).trans ((hu_ne (by omega)).trans ((hu_ne (by omega)).trans ((hu_ne (by omega)).trans ((hf3 q (by omega) (by omega) (by omega) (by omega) (by omega) (by omega)).trans ((hu_ne (by omega)).trans ((hu_ne (by omega)).trans ((hf2 q (by omega) (by omega) (by omega) (by omega)).trans ((hu_ne (by omega)).trans ((hu_ne (by omega)).trans ((hf1 q (by omega) (by omega)).trans ((hu_ne (by omega)).trans rfl))))))))))))))))))), rfl, ((hu_ne (by omega)).trans ((hu_ne (by omega)).trans ((hu_ne (by omega)).trans ((hu_ne (by omega)).trans ((hu_ne (by omega)).trans ((hu_ne (by omega)).trans ((hu_ne (by omega)).trans ((hu_ne (by omega)).trans ((hu_ne (by omega)).trans ((hu_ne (by omega)).trans ((hu_ne (by omega)).trans ((hf3 (a + 1) (by omega) (by omega) (by omega) (by omega) (by omega) (by omega)).trans ((hu_ne (by omega)).trans ((hu_ne (by omega)).trans ((hf2 (a + 1) (by omega) (by omega) (by omega) (by omega)).trans ((hu_ne (by omega)).trans ((hu_ne (by omega)).trans hw1_1))))))))))))))))), ((hu_ne (by omega)).trans ((hu_ne (by omega)).trans ((hu_ne (by omega)).trans ((hu_ne (by omega)).trans ((hu_ne (by omega)).trans ((hu_ne (by omega)).trans ((hu_ne (by omega)).trans ((hu_ne (by omega)).trans ((hu_ne (by omega)).trans ((hu_ne (by omega)).trans ((hu_ne (by omega)).trans ((hf3 (a + 2) (by omega) (by omega) (by omega) (by omega) (by omega) (by omega)).trans ((hu_ne (by omega)).trans ((hu_ne (by omega)).trans ((hf2 (a + 2) (by omega) (by omega) (by omega) (by omega)).trans ((hu_ne (by omega)).trans ((hu_ne (by omega)).trans hw1_0))))))))))))))))), (hu_same _ _ _), ((hu_ne (by omega)).trans ((hu_ne (by omega)).trans ((hu_ne (by omega)).trans ((hu_ne (by omega)).trans ((hu_ne (by omega)).trans ((hu_ne (by omega)).trans ((hu_ne (by omega)).trans ((hu_ne (by omega)).trans ((hu_ne (by omega)).trans ((hu_ne (by omega)).trans ((hu_ne (by omega)).trans ((hf3 (a + 3) (by omega) (by omega) (by omega) (by omega) (by omega) (by omega)).trans ((hu_ne (by omega)).trans ((hu_ne (by omega)).trans hw2_2)))))))))))))), ((hu_ne (by omega)).trans ((hu_ne (by omega)).trans ((hu_ne (by omega)).trans ((hu_ne (by omega)).trans ((hu_ne (by omega)).trans ((hu_ne (by omega)).trans ((hu_ne (by omega)).trans ((hu_ne (by omega)).trans ((hu_ne (by omega)).trans ((hu_ne (by omega)).trans ((hu_ne (by omega)).trans ((hf3 (a + 4) (by omega) (by omega) (by omega) (by omega) (by omega) (by omega)).trans ((hu_ne (by omega)).trans ((hu_ne (by omega)).trans hw2_0)))))))))))))), ((hu_ne (by omega)).trans ((hu_ne (by omega)).trans ((hu_ne (by omega)).trans ((hu_ne (by omega)).trans ((hu_ne (by omega)).trans ((hu_ne (by omega)).trans ((hu_ne (by omega)).trans ((hu_ne (by omega)).trans ((hu_ne (by omega)).trans ((hu_ne (by omega)).trans ((hu_ne (by omega)).trans ((hf3 (a + 5) (by omega) (by omega) (by omega) (by omega) (by omega) (by omega)).trans ((hu_ne (by omega)).trans ((hu_ne (by omega)).trans hw2_1)))))))))))))), ((hu_ne (by omega)).trans ((hu_ne (by omega)).trans ((hu_ne (by omega)).trans ((hu_ne (by omega)).trans ((hu_ne (by omega)).trans ((hu_ne (by omega)).trans ((hu_ne (by omega)).trans ((hu_ne (by omega)).trans ((hu_ne (by omega)).trans ((hu_ne (by omega)).trans ((hu_ne (by omega)).trans ((hf3 (a + 6) (by omega) (by omega) (by omega) (by omega) (by omega) (by omega)).trans ((hu_ne (by omega)).trans ((hu_ne (by omega)).trans hw2_3)))))))))))))), ((hu_ne (by omega)).trans ((hu_ne (by omega)).trans ((hu_ne (by omega)).trans ((hu_ne (by omega)).trans ((hu_ne (by omega)).trans ((hu_ne (by omega)).trans ((hu_ne (by omega)).trans ((hu_ne (by omega)).trans ((hu_ne (by omega)).trans ((hu_ne (by omega)).trans ((hu_ne (by omega)).trans hw3_2))))))))))), ((hu_ne (by omega)).trans ((hu_ne (by omega)).trans ((hu_ne (by omega)).trans ((hu_ne (by omega)).trans ((hu_ne (by omega)).trans ((hu_ne (by omega)).trans ((hu_ne (by omega)).trans ((hu_ne (by omega)).trans ((hu_ne (by omega)).trans ((hu_ne (by omega)).trans ((hu_ne (by omega)).trans hw3_0))))))))))), ((hu_ne (by omega)).trans ((hu_ne (by omega)).trans ((hu_ne (by omega)).trans ((hu_ne (by omega)).trans ((hu_ne (by omega)).trans ((hu_ne (by omega)).trans ((hu_ne (by omega)).trans ((hu_ne (by omega)).trans ((hu_ne (by omega)).trans ((hu_ne (by omega)).trans ((hu_ne (by omega)).trans hw3_1))))))))))), ((hu_ne (by omega)).trans ((hu_ne (by omega)).trans ((hu_ne (by omega)).trans ((hu_ne (by omega)).trans ((hu_ne (by omega)).trans ((hu_ne (by omega)).trans ((hu_ne (by omega)).trans ((hu_ne (by omega)).trans ((hu_ne (by omega)).trans ((hu_ne (by omega)).trans ((hu_ne (by omega)).trans hw3_3))))))))))), ((hu_ne (by omega)).trans ((hu_ne (by omega)).trans ((hu_ne (by omega)).trans ((hu_ne (by omega)).trans ((hu_ne (by omega)).trans ((hu_ne (by omega)).trans ((hu_ne (by omega)).trans ((hu_ne (by omega)).trans ((hu_ne (by omega)).trans ((hu_ne (by omega)).trans ((hu_ne (by omega)).trans hw3_4))))))))))), ((hu_ne (by omega)).trans ((hu_ne (by omega)).trans ((hu_ne (by omega)).trans ((hu_ne (by omega)).trans ((hu_ne (by omega)).trans ((hu_ne (by omega)).trans ((hu_ne (by omega)).trans ((hu_ne (by omega)).trans ((hu_ne (by omega)).trans ((hu_ne (by omega)).trans ((hu_ne (by omega)).trans hw3_5)))))))))))⟩
def k_VS_init : MS := ("VaryStore", b_VS_init, 1, none, "<init>", { frames := 3, cells := 32, slots := 3513, locals := 52 }, [])
set_option maxRecDepth 100000 in
set_option maxHeartbeats 4000000 in
theorem c_VS_init (Γ : GE) (a : Nat) {M : HM}  (p0 : M (a) = some (.inr (0, [.null, .null, .null, .null, .int (iI (0)), .int (iI (0)), .null, .null, .null, .null, .null]))) : CT Γ k_VS_init y_VS_init [.ref (a)] M (a + 1) (fun v M' n' => a + 33 = n' ∧ (∀ q, q ≠ a + 1 → q ≠ a + 2 → q ≠ a → q ≠ a + 3 → q ≠ a + 4 → q ≠ a + 5 → q ≠ a + 6 → q ≠ a + 7 → q ≠ a + 8 → q ≠ a + 9 → q ≠ a + 10 → q ≠ a + 11 → q ≠ a + 12 → q ≠ a + 13 → q ≠ a + 14 → q ≠ a + 15 → q ≠ a + 16 → q ≠ a + 17 → q ≠ a + 18 → q ≠ a + 19 → q ≠ a + 20 → q ≠ a + 21 → q ≠ a + 22 → q ≠ a + 23 → q ≠ a + 24 → q ≠ a + 25 → q ≠ a + 26 → q ≠ a + 27 → q ≠ a + 28 → q ≠ a + 29 → q ≠ a + 30 → q ≠ a + 31 → q ≠ a + 32 → M' q = M q) ∧ v = none ∧ M' (a + 1) = some (.inr (2, [.ref (a + 2), .int (iI (0))])) ∧ M' (a + 2) = some (.inl (Γ.2.2.1 0, 300, .inl (fun _ => iI 0))) ∧ M' (a) = some (.inr (0, [.ref (a + 1), .ref (a + 3), .ref (a + 5), .ref (a + 11), .int (iI ((-1))), .int (iI (0)), .ref (a + 17), .ref (a + 19), .ref (a + 21), .ref (a + 25), .ref (a + 29)])) ∧ M' (a + 3) = some (.inr (3, [.ref (a + 4), .int (iI (0)), .int (iI (0))])) ∧ M' (a + 4) = some (.inl (Γ.2.2.1 2, 25, .inr (.inr (.inr (.inr (fun _ => none)))))) ∧ M' (a + 5) = some (.inr (4, [.ref (a + 6), .ref (a + 8), .ref (a + 9), .ref (a + 10), .int (iI (0))])) ∧ M' (a + 6) = some (.inr (2, [.ref (a + 7), .int (iI (0))])) ∧ M' (a + 7) = some (.inl (Γ.2.2.1 0, 300, .inl (fun _ => iI 0))) ∧ M' (a + 8) = some (.inl (Γ.2.2.1 1, 100, .inl (fun _ => iI 0))) ∧ M' (a + 9) = some (.inl (Γ.2.2.1 1, 100, .inl (fun _ => iI 0))) ∧ M' (a + 10) = some (.inl (Γ.2.2.1 1, 100, .inl (fun _ => iI 0))) ∧ M' (a + 11) = some (.inr (4, [.ref (a + 12), .ref (a + 14), .ref (a + 15), .ref (a + 16), .int (iI (0))])) ∧ M' (a + 12) = some (.inr (2, [.ref (a + 13), .int (iI (0))])) ∧ M' (a + 13) = some (.inl (Γ.2.2.1 0, 300, .inl (fun _ => iI 0))) ∧ M' (a + 14) = some (.inl (Γ.2.2.1 1, 100, .inl (fun _ => iI 0))) ∧ M' (a + 15) = some (.inl (Γ.2.2.1 1, 100, .inl (fun _ => iI 0))) ∧ M' (a + 16) = some (.inl (Γ.2.2.1 1, 100, .inl (fun _ => iI 0))) ∧ M' (a + 17) = some (.inr (2, [.ref (a + 18), .int (iI (0))])) ∧ M' (a + 18) = some (.inl (Γ.2.2.1 0, 300, .inl (fun _ => iI 0))) ∧ M' (a + 19) = some (.inr (2, [.ref (a + 20), .int (iI (0))])) ∧ M' (a + 20) = some (.inl (Γ.2.2.1 0, 300, .inl (fun _ => iI 0))) ∧ M' (a + 21) = some (.inr (1, [.ref (a + 22), .ref (a + 24), .int (iI (0))])) ∧ M' (a + 22) = some (.inr (2, [.ref (a + 23), .int (iI (0))])) ∧ M' (a + 23) = some (.inl (Γ.2.2.1 0, 300, .inl (fun _ => iI 0))) ∧ M' (a + 24) = some (.inl (Γ.2.2.1 1, 150, .inl (fun _ => iI 0))) ∧ M' (a + 25) = some (.inr (1, [.ref (a + 26), .ref (a + 28), .int (iI (0))])) ∧ M' (a + 26) = some (.inr (2, [.ref (a + 27), .int (iI (0))])) ∧ M' (a + 27) = some (.inl (Γ.2.2.1 0, 300, .inl (fun _ => iI 0))) ∧ M' (a + 28) = some (.inl (Γ.2.2.1 1, 150, .inl (fun _ => iI 0))) ∧ M' (a + 29) = some (.inr (1, [.ref (a + 30), .ref (a + 32), .int (iI (0))])) ∧ M' (a + 30) = some (.inr (2, [.ref (a + 31), .int (iI (0))])) ∧ M' (a + 31) = some (.inl (Γ.2.2.1 0, 300, .inl (fun _ => iI 0))) ∧ M' (a + 32) = some (.inl (Γ.2.2.1 1, 150, .inl (fun _ => iI 0)))) := by
  refine CT.of (by decide) rfl rfl 0 rfl (Nat.le_of_ble_eq_true rfl) rfl ?_
  refine g_aload_n d_VS_init_0 rfl ?_
  refine g_objInit d_VS_init_1 w_55 w_56 w_57 (by decide) (Nat.le_of_ble_eq_true rfl) ?_
  refine g_aload_n d_VS_init_4 rfl ?_
  refine g_new (ci := 2) t_Ro [.null, .int (iI (0))] rfl uw_Ro to_Ro (fun j hj => by rcases (show j = 0 ∨ j = 1 by omega) with rfl | rfl <;> rfl) d_VS_init_5 w_58 w_59 w_31 (by decide) (by decide) ?_
  refine g_dup d_VS_init_8 rfl ?_
  refine g_callIN0 (ν := k_Ro_init) ⟨⟨"VaryStore", w_60⟩, w_31, w_62, by decide, by decide, by decide +kernel⟩ w_61 rfl rfl (c_Ro_init Γ (a + 1)  (hu_same _ _ _)) d_VS_init_9 ⟨⟨by decide, by decide⟩, ⟨by decide, by decide⟩⟩ (Nat.le_of_ble_eq_true rfl) (fun v1 M1 n1 hQ1 hn1 hd1 => ?_)
  obtain ⟨rfl, hf1, rfl, hw1_0, hw1_1⟩ := hQ1
  refine g_putF fa_VS_12 d_VS_init_12 ((hf1 (a) (by omega) (by omega)).trans ((hu_ne (by omega)).trans p0)) (Nat.le_of_ble_eq_true rfl) rfl w_138 rfl rfl rfl rfl ?_
  refine g_aload_n d_VS_init_15 rfl ?_
  refine g_new (ci := 3) t_Sh [.null, .int (iI (0)), .int (iI (0))] rfl uw_Sh to_Sh (fun j hj => by rcases (show j = 0 ∨ j = 1 ∨ j = 2 by omega) with rfl | rfl | rfl <;> rfl) d_VS_init_16 w_75 w_76 w_32 (by decide) (by decide) ?_
  refine g_dup d_VS_init_19 rfl ?_
  refine g_callIN0 (ν := k_Sh_init) ⟨⟨"VaryStore", w_77⟩, w_32, w_79, by decide, by decide, by decide +kernel⟩ w_78 rfl rfl (c_Sh_init Γ (a + 3)  (hu_same _ _ _)) d_VS_init_20 ⟨⟨by decide, by decide⟩, ⟨by decide, by decide⟩⟩ (Nat.le_of_ble_eq_true rfl) (fun v2 M2 n2 hQ2 hn2 hd2 => ?_)
  obtain ⟨rfl, hf2, rfl, hw2_0, hw2_1⟩ := hQ2
  refine g_putF fa_VS_19 d_VS_init_23 ((hf2 (a) (by omega) (by omega)).trans ((hu_ne (by omega)).trans (hu_same _ _ _))) (Nat.le_of_ble_eq_true rfl) rfl w_139 rfl rfl rfl rfl ?_
  refine g_aload_n d_VS_init_26 rfl ?_
  refine g_new (ci := 4) t_Te [.null, .null, .null, .null, .int (iI (0))] rfl uw_Te to_Te (fun j hj => by rcases (show j = 0 ∨ j = 1 ∨ j = 2 ∨ j = 3 ∨ j = 4 by omega) with rfl | rfl | rfl | rfl | rfl <;> rfl) d_VS_init_27 w_94 w_95 w_33 (by decide) (by decide) ?_
  refine g_dup d_VS_init_30 rfl ?_
  refine g_callIN0 (ν := k_Te_init) ⟨⟨"VaryStore", w_96⟩, w_33, w_98, by decide, by decide, by decide +kernel⟩ w_97 rfl rfl (c_Te_init Γ (a + 5)  (hu_same _ _ _)) d_VS_init_31 ⟨⟨by decide, by decide⟩, ⟨by decide, by decide⟩⟩ (Nat.le_of_ble_eq_true rfl) (fun v3 M3 n3 hQ3 hn3 hd3 => ?_)
  obtain ⟨rfl, hf3, rfl, hw3_0, hw3_1, hw3_2, hw3_3, hw3_4, hw3_5⟩ := hQ3
  refine g_put fa_VS_26 d_VS_init_34 ((hf3 (a) (by omega) (by omega) (by omega) (by omega) (by omega) (by omega)).trans ((hu_ne (by omega)).trans (hu_same _ _ _))) (Nat.le_of_ble_eq_true rfl) rfl rfl rfl ?_
  refine g_aload_n d_VS_init_37 rfl ?_
  refine g_new (ci := 4) t_Te [.null, .null, .null, .null, .int (iI (0))] rfl uw_Te to_Te (fun j hj => by rcases (show j = 0 ∨ j = 1 ∨ j = 2 ∨ j = 3 ∨ j = 4 by omega) with rfl | rfl | rfl | rfl | rfl <;> rfl) d_VS_init_38 w_94 w_95 w_33 (by decide) (by decide) ?_
  refine g_dup d_VS_init_41 rfl ?_
  refine g_callIN0 (ν := k_Te_init) ⟨⟨"VaryStore", w_96⟩, w_33, w_98, by decide, by decide, by decide +kernel⟩ w_97 rfl rfl (c_Te_init Γ (a + 11)  (hu_same _ _ _)) d_VS_init_42 ⟨⟨by decide, by decide⟩, ⟨by decide, by decide⟩⟩ (Nat.le_of_ble_eq_true rfl) (fun v4 M4 n4 hQ4 hn4 hd4 => ?_)
  obtain ⟨rfl, hf4, rfl, hw4_0, hw4_1, hw4_2, hw4_3, hw4_4, hw4_5⟩ := hQ4
  refine g_put fa_VS_30 d_VS_init_45 ((hf4 (a) (by omega) (by omega) (by omega) (by omega) (by omega) (by omega)).trans ((hu_ne (by omega)).trans (hu_same _ _ _))) (Nat.le_of_ble_eq_true rfl) rfl rfl rfl ?_
  refine g_aload_n d_VS_init_48 rfl ?_
  refine g_iconst d_VS_init_49 ?_
  refine g_put fa_VS_33 d_VS_init_50 (hu_same _ _ _) (Nat.le_of_ble_eq_true rfl) rfl rfl rfl ?_
  refine g_aload_n d_VS_init_53 rfl ?_
  refine g_iconst d_VS_init_54 ?_
  refine g_put fa_VS_37 d_VS_init_55 (hu_same _ _ _) (Nat.le_of_ble_eq_true rfl) rfl rfl rfl ?_
  refine g_aload_n d_VS_init_58 rfl ?_
  refine g_new (ci := 2) t_Ro [.null, .int (iI (0))] rfl uw_Ro to_Ro (fun j hj => by rcases (show j = 0 ∨ j = 1 by omega) with rfl | rfl <;> rfl) d_VS_init_59 w_58 w_59 w_31 (by decide) (by decide) ?_
  refine g_dup d_VS_init_62 rfl ?_
  refine g_callIN0 (ν := k_Ro_init) ⟨⟨"VaryStore", w_60⟩, w_31, w_62, by decide, by decide, by decide +kernel⟩ w_61 rfl rfl (c_Ro_init Γ (a + 17)  (hu_same _ _ _)) d_VS_init_63 ⟨⟨by decide, by decide⟩, ⟨by decide, by decide⟩⟩ (Nat.le_of_ble_eq_true rfl) (fun v5 M5 n5 hQ5 hn5 hd5 => ?_)
  obtain ⟨rfl, hf5, rfl, hw5_0, hw5_1⟩ := hQ5
  refine g_putF fa_VS_40 d_VS_init_66 ((hf5 (a) (by omega) (by omega)).trans ((hu_ne (by omega)).trans (hu_same _ _ _))) (Nat.le_of_ble_eq_true rfl) rfl w_144 rfl rfl rfl rfl ?_
  refine g_aload_n d_VS_init_69 rfl ?_
  refine g_new (ci := 2) t_Ro [.null, .int (iI (0))] rfl uw_Ro to_Ro (fun j hj => by rcases (show j = 0 ∨ j = 1 by omega) with rfl | rfl <;> rfl) d_VS_init_70 w_58 w_59 w_31 (by decide) (by decide) ?_
  refine g_dup d_VS_init_73 rfl ?_
  refine g_callIN0 (ν := k_Ro_init) ⟨⟨"VaryStore", w_60⟩, w_31, w_62, by decide, by decide, by decide +kernel⟩ w_61 rfl rfl (c_Ro_init Γ (a + 19)  (hu_same _ _ _)) d_VS_init_74 ⟨⟨by decide, by decide⟩, ⟨by decide, by decide⟩⟩ (Nat.le_of_ble_eq_true rfl) (fun v6 M6 n6 hQ6 hn6 hd6 => ?_)
  obtain ⟨rfl, hf6, rfl, hw6_0, hw6_1⟩ := hQ6
  refine g_putF fa_VS_43 d_VS_init_77 ((hf6 (a) (by omega) (by omega)).trans ((hu_ne (by omega)).trans (hu_same _ _ _))) (Nat.le_of_ble_eq_true rfl) rfl w_145 rfl rfl rfl rfl ?_
  refine g_aload_n d_VS_init_80 rfl ?_
  refine g_new (ci := 1) t_It [.null, .null, .int (iI (0))] rfl uw_It to_It (fun j hj => by rcases (show j = 0 ∨ j = 1 ∨ j = 2 by omega) with rfl | rfl | rfl <;> rfl) d_VS_init_81 w_119 w_120 w_34 (by decide) (by decide) ?_
  refine g_dup d_VS_init_84 rfl ?_
  refine g_callIN0 (ν := k_It_init) ⟨⟨"VaryStore", w_121⟩, w_34, w_123, by decide, by decide, by decide +kernel⟩ w_122 rfl rfl (c_It_init Γ (a + 21)  (hu_same _ _ _)) d_VS_init_85 ⟨⟨by decide, by decide⟩, ⟨by decide, by decide⟩⟩ (Nat.le_of_ble_eq_true rfl) (fun v7 M7 n7 hQ7 hn7 hd7 => ?_)
  obtain ⟨rfl, hf7, rfl, hw7_0, hw7_1, hw7_2, hw7_3⟩ := hQ7
  refine g_putF fa_VS_49 d_VS_init_88 ((hf7 (a) (by omega) (by omega) (by omega) (by omega)).trans ((hu_ne (by omega)).trans (hu_same _ _ _))) (Nat.le_of_ble_eq_true rfl) rfl w_146 rfl rfl rfl rfl ?_
  refine g_aload_n d_VS_init_91 rfl ?_
  refine g_new (ci := 1) t_It [.null, .null, .int (iI (0))] rfl uw_It to_It (fun j hj => by rcases (show j = 0 ∨ j = 1 ∨ j = 2 by omega) with rfl | rfl | rfl <;> rfl) d_VS_init_92 w_119 w_120 w_34 (by decide) (by decide) ?_
  refine g_dup d_VS_init_95 rfl ?_
  refine g_callIN0 (ν := k_It_init) ⟨⟨"VaryStore", w_121⟩, w_34, w_123, by decide, by decide, by decide +kernel⟩ w_122 rfl rfl (c_It_init Γ (a + 25)  (hu_same _ _ _)) d_VS_init_96 ⟨⟨by decide, by decide⟩, ⟨by decide, by decide⟩⟩ (Nat.le_of_ble_eq_true rfl) (fun v8 M8 n8 hQ8 hn8 hd8 => ?_)
  obtain ⟨rfl, hf8, rfl, hw8_0, hw8_1, hw8_2, hw8_3⟩ := hQ8
  refine g_putF fa_VS_53 d_VS_init_99 ((hf8 (a) (by omega) (by omega) (by omega) (by omega)).trans ((hu_ne (by omega)).trans (hu_same _ _ _))) (Nat.le_of_ble_eq_true rfl) rfl w_147 rfl rfl rfl rfl ?_
  refine g_aload_n d_VS_init_102 rfl ?_
  refine g_new (ci := 1) t_It [.null, .null, .int (iI (0))] rfl uw_It to_It (fun j hj => by rcases (show j = 0 ∨ j = 1 ∨ j = 2 by omega) with rfl | rfl | rfl <;> rfl) d_VS_init_103 w_119 w_120 w_34 (by decide) (by decide) ?_
  refine g_dup d_VS_init_106 rfl ?_
  refine g_callIN0 (ν := k_It_init) ⟨⟨"VaryStore", w_121⟩, w_34, w_123, by decide, by decide, by decide +kernel⟩ w_122 rfl rfl (c_It_init Γ (a + 29)  (hu_same _ _ _)) d_VS_init_107 ⟨⟨by decide, by decide⟩, ⟨by decide, by decide⟩⟩ (Nat.le_of_ble_eq_true rfl) (fun v9 M9 n9 hQ9 hn9 hd9 => ?_)
  obtain ⟨rfl, hf9, rfl, hw9_0, hw9_1, hw9_2, hw9_3⟩ := hQ9
  refine g_putF fa_VS_56 d_VS_init_110 ((hf9 (a) (by omega) (by omega) (by omega) (by omega)).trans ((hu_ne (by omega)).trans (hu_same _ _ _))) (Nat.le_of_ble_eq_true rfl) rfl w_148 rfl rfl rfl rfl ?_
  refine g_vret d_VS_init_113 rfl ?_ (by decide) (by decide)
  exact ⟨rfl, fun q e0 e1 e2 e3 e4 e5 e6 e7 e8 e9 e10 e11 e12 e13 e14 e15 e16 e17 e18 e19 e20 e21 e22 e23 e24 e25 e26 e27 e28 e29 e30 e31 e32 => ((hu_ne (by omega)).trans ((hf9 q (by omega) (by omega) (by omega) (by omega)).trans ((hu_ne (by omega)).trans ((hu_ne (by omega)).trans ((hf8 q (by omega) (by omega) (by omega) (by omega)).trans ((hu_ne (by omega)).trans ((hu_ne (by omega)).trans ((hf7 q (by omega) (by omega) (by omega) (by omega)).trans ((hu_ne (by omega)).trans ((hu_ne (by omega)).trans ((hf6 q (by omega) (by omega)).trans ((hu_ne (by omega)).trans ((hu_ne (by omega)).trans ((hf5 q (by omega) (by omega)).trans ((hu_ne (by omega)).trans ((hu_ne (by omega)).trans ((hu_ne (by omega)).trans ((hu_ne (by omega)).trans ((hf4 q (by omega) (by omega) (by omega) (by omega) (by omega) (by omega)).trans ((hu_ne (by omega)).trans ((hu_ne (by omega)).trans ((hf3 q (by omega) (by omega) (by omega) (by omega) (by omega) (by omega)).trans ((hu_ne (by omega)).trans ((hu_ne (by omega)).trans ((hf2 q (by omega) (by omega)).trans ((hu_ne (by omega)).trans ((hu_ne (by omega)).trans ((hf1 q (by omega) (by omega)).trans ((hu_ne (by omega)).trans rfl))))))))))))))))))))))))))))), rfl, ((hu_ne (by omega)).trans ((hf9 (a + 1) (by omega) (by omega) (by omega) (by omega)).trans ((hu_ne (by omega)).trans ((hu_ne (by omega)).trans ((hf8 (a + 1) (by omega) (by omega) (by omega) (by omega)).trans ((hu_ne (by omega)).trans ((hu_ne (by omega)).trans ((hf7 (a + 1) (by omega) (by omega) (by omega) (by omega)).trans ((hu_ne (by omega)).trans ((hu_ne (by omega)).trans ((hf6 (a + 1) (by omega) (by omega)).trans ((hu_ne (by omega)).trans ((hu_ne (by omega)).trans ((hf5 (a + 1) (by omega) (by omega)).trans ((hu_ne (by omega)).trans ((hu_ne (by omega)).trans ((hu_ne (by omega)).trans ((hu_ne (by omega)).trans ((hf4 (a + 1) (by omega) (by omega) (by omega) (by omega) (by omega) (by omega)).trans ((hu_ne (by omega)).trans ((hu_ne (by omega)).trans ((hf3 (a + 1) (by omega) (by omega) (by omega) (by omega) (by omega) (by omega)).trans ((hu_ne (by omega)).trans ((hu_ne (by omega)).trans ((hf2 (a + 1) (by omega) (by omega)).trans ((hu_ne (by omega)).trans ((hu_ne (by omega)).trans hw1_1))))))))))))))))))))))))))), ((hu_ne (by omega)).trans ((hf9 (a + 2) (by omega) (by omega) (by omega) (by omega)).trans ((hu_ne (by omega)).trans ((hu_ne (by omega)).trans ((hf8 (a + 2) (by omega) (by omega) (by omega) (by omega)).trans ((hu_ne (by omega)).trans ((hu_ne (by omega)).trans ((hf7 (a + 2) (by omega) (by omega) (by omega) (by omega)).trans ((hu_ne (by omega)).trans ((hu_ne (by omega)).trans ((hf6 (a + 2) (by omega) (by omega)).trans ((hu_ne (by omega)).trans ((hu_ne (by omega)).trans ((hf5 (a + 2) (by omega) (by omega)).trans ((hu_ne (by omega)).trans ((hu_ne (by omega)).trans ((hu_ne (by omega)).trans ((hu_ne (by omega)).trans ((hf4 (a + 2) (by omega) (by omega) (by omega) (by omega) (by omega) (by omega)).trans ((hu_ne (by omega)).trans ((hu_ne (by omega)).trans ((hf3 (a + 2) (by omega) (by omega) (by omega) (by omega) (by omega) (by omega)).trans ((hu_ne (by omega)).trans ((hu_ne (by omega)).trans ((hf2 (a + 2) (by omega) (by omega)).trans ((hu_ne (by omega)).trans ((hu_ne (by omega)).trans hw1_0))))))))))))))))))))))))))), (hu_same _ _ _), ((hu_ne (by omega)).trans ((hf9 (a + 3) (by omega) (by omega) (by omega) (by omega)).trans ((hu_ne (by omega)).trans ((hu_ne (by omega)).trans ((hf8 (a + 3) (by omega) (by omega) (by omega) (by omega)).trans ((hu_ne (by omega)).trans ((hu_ne (by omega)).trans ((hf7 (a + 3) (by omega) (by omega) (by omega) (by omega)).trans ((hu_ne (by omega)).trans ((hu_ne (by omega)).trans ((hf6 (a + 3) (by omega) (by omega)).trans ((hu_ne (by omega)).trans ((hu_ne (by omega)).trans ((hf5 (a + 3) (by omega) (by omega)).trans ((hu_ne (by omega)).trans ((hu_ne (by omega)).trans ((hu_ne (by omega)).trans ((hu_ne (by omega)).trans ((hf4 (a + 3) (by omega) (by omega) (by omega) (by omega) (by omega) (by omega)).trans ((hu_ne (by omega)).trans ((hu_ne (by omega)).trans ((hf3 (a + 3) (by omega) (by omega) (by omega) (by omega) (by omega) (by omega)).trans ((hu_ne (by omega)).trans ((hu_ne (by omega)).trans hw2_1)))))))))))))))))))))))), ((hu_ne (by omega)).trans ((hf9 (a + 4) (by omega) (by omega) (by omega) (by omega)).trans ((hu_ne (by omega)).trans ((hu_ne (by omega)).trans ((hf8 (a + 4) (by omega) (by omega) (by omega) (by omega)).trans ((hu_ne (by omega)).trans ((hu_ne (by omega)).trans ((hf7 (a + 4) (by omega) (by omega) (by omega) (by omega)).trans ((hu_ne (by omega)).trans ((hu_ne (by omega)).trans ((hf6 (a + 4) (by omega) (by omega)).trans ((hu_ne (by omega)).trans ((hu_ne (by omega)).trans ((hf5 (a + 4) (by omega) (by omega)).trans ((hu_ne (by omega)).trans ((hu_ne (by omega)).trans ((hu_ne (by omega)).trans ((hu_ne (by omega)).trans ((hf4 (a + 4) (by omega) (by omega) (by omega) (by omega) (by omega) (by omega)).trans ((hu_ne (by omega)).trans ((hu_ne (by omega)).trans ((hf3 (a + 4) (by omega) (by omega) (by omega) (by omega) (by omega) (by omega)).trans ((hu_ne (by omega)).trans ((hu_ne (by omega)).trans hw2_0)))))))))))))))))))))))), ((hu_ne (by omega)).trans ((hf9 (a + 5) (by omega) (by omega) (by omega) (by omega)).trans ((hu_ne (by omega)).trans ((hu_ne (by omega)).trans ((hf8 (a + 5) (by omega) (by omega) (by omega) (by omega)).trans ((hu_ne (by omega)).trans ((hu_ne (by omega)).trans ((hf7 (a + 5) (by omega) (by omega) (by omega) (by omega)).trans ((hu_ne (by omega)).trans ((hu_ne (by omega)).trans ((hf6 (a + 5) (by omega) (by omega)).trans ((hu_ne (by omega)).trans ((hu_ne (by omega)).trans ((hf5 (a + 5) (by omega) (by omega)).trans ((hu_ne (by omega)).trans ((hu_ne (by omega)).trans ((hu_ne (by omega)).trans ((hu_ne (by omega)).trans ((hf4 (a + 5) (by omega) (by omega) (by omega) (by omega) (by omega) (by omega)).trans ((hu_ne (by omega)).trans ((hu_ne (by omega)).trans hw3_2))))))))))))))))))))), ((hu_ne (by omega)).trans ((hf9 (a + 6) (by omega) (by omega) (by omega) (by omega)).trans ((hu_ne (by omega)).trans ((hu_ne (by omega)).trans ((hf8 (a + 6) (by omega) (by omega) (by omega) (by omega)).trans ((hu_ne (by omega)).trans ((hu_ne (by omega)).trans ((hf7 (a + 6) (by omega) (by omega) (by omega) (by omega)).trans ((hu_ne (by omega)).trans ((hu_ne (by omega)).trans ((hf6 (a + 6) (by omega) (by omega)).trans ((hu_ne (by omega)).trans ((hu_ne (by omega)).trans ((hf5 (a + 6) (by omega) (by omega)).trans ((hu_ne (by omega)).trans ((hu_ne (by omega)).trans ((hu_ne (by omega)).trans ((hu_ne (by omega)).trans ((hf4 (a + 6) (by omega) (by omega) (by omega) (by omega) (by omega) (by omega)).trans ((hu_ne (by omega)).trans ((hu_ne (by omega)).trans hw3_0))))))))))))))))))))), ((hu_ne (by omega)).trans ((hf9 (a + 7) (by omega) (by omega) (by omega) (by omega)).trans ((hu_ne (by omega)).trans ((hu_ne (by omega)).trans ((hf8 (a + 7) (by omega) (by omega) (by omega) (by omega)).trans ((hu_ne (by omega)).trans ((hu_ne (by omega)).trans ((hf7 (a + 7) (by omega) (by omega) (by omega) (by omega)).trans ((hu_ne (by omega)).trans ((hu_ne (by omega)).trans ((hf6 (a + 7) (by omega) (by omega)).trans ((hu_ne (by omega)).trans ((hu_ne (by omega)).trans ((hf5 (a + 7) (by omega) (by omega)).trans ((hu_ne (by omega)).trans ((hu_ne (by omega)).trans ((hu_ne (by omega)).trans ((hu_ne (by omega)).trans ((hf4 (a + 7) (by omega) (by omega) (by omega) (by omega) (by omega) (by omega)).trans ((hu_ne (by omega)).trans ((hu_ne (by omega)).trans hw3_1))))))))))))))))))))), ((hu_ne (by omega)).trans ((hf9 (a + 8) (by omega) (by omega) (by omega) (by omega)).trans ((hu_ne (by omega)).trans ((hu_ne (by omega)).trans ((hf8 (a + 8) (by omega) (by omega) (by omega) (by omega)).trans ((hu_ne (by omega)).trans ((hu_ne (by omega)).trans ((hf7 (a + 8) (by omega) (by omega) (by omega) (by omega)).trans ((hu_ne (by omega)).trans ((hu_ne (by omega)).trans ((hf6 (a + 8) (by omega) (by omega)).trans ((hu_ne (by omega)).trans ((hu_ne (by omega)).trans ((hf5 (a + 8) (by omega) (by omega)).trans ((hu_ne (by omega)).trans ((hu_ne (by omega)).trans ((hu_ne (by omega)).trans ((hu_ne (by omega)).trans ((hf4 (a + 8) (by omega) (by omega) (by omega) (by omega) (by omega) (by omega)).trans ((hu_ne (by omega)).trans ((hu_ne (by omega)).trans hw3_3))))))))))))))))))))), ((hu_ne (by omega)).trans ((hf9 (a + 9) (by omega) (by omega) (by omega) (by omega)).trans ((hu_ne (by omega)).trans ((hu_ne (by omega)).trans ((hf8 (a + 9) (by omega) (by omega) (by omega) (by omega)).trans ((hu_ne (by omega)).trans ((hu_ne (by omega)).trans ((hf7 (a + 9) (by omega) (by omega) (by omega) (by omega)).trans ((hu_ne (by omega)).trans ((hu_ne (by omega)).trans ((hf6 (a + 9) (by omega) (by omega)).trans ((hu_ne (by omega)).trans ((hu_ne (by omega)).trans ((hf5 (a + 9) (by omega) (by omega)).trans ((hu_ne (by omega)).trans ((hu_ne (by omega)).trans ((hu_ne (by omega)).trans ((hu_ne (by omega)).trans ((hf4 (a + 9) (by omega) (by omega) (by omega) (by omega) (by omega) (by omega)).trans ((hu_ne (by omega)).trans ((hu_ne (by omega)).trans hw3_4))))))))))))))))))))), ((hu_ne (by omega)).trans ((hf9 (a + 10) (by omega) (by omega) (by omega) (by omega)).trans ((hu_ne (by omega)).trans ((hu_ne (by omega)).trans ((hf8 (a + 10) (by omega) (by omega) (by omega) (by omega)).trans ((hu_ne (by omega)).trans ((hu_ne (by omega)).trans ((hf7 (a + 10) (by omega) (by omega) (by omega) (by omega)).trans ((hu_ne (by omega)).trans ((hu_ne (by omega)).trans ((hf6 (a + 10) (by omega) (by omega)).trans ((hu_ne (by omega)).trans ((hu_ne (by omega)).trans ((hf5 (a + 10) (by omega) (by omega)).trans ((hu_ne (by omega)).trans ((hu_ne (by omega)).trans ((hu_ne (by omega)).trans ((hu_ne (by omega)).trans ((hf4 (a + 10) (by omega) (by omega) (by omega) (by omega) (by omega) (by omega)).trans ((hu_ne (by omega)).trans ((hu_ne (by omega)).trans hw3_5))))))))))))))))))))), ((hu_ne (by omega)).trans ((hf9 (a + 11) (by omega) (by omega) (by omega) (by omega)).trans ((hu_ne (by omega)).trans ((hu_ne (by omega)).trans ((hf8 (a + 11) (by omega) (by omega) (by omega) (by omega)).trans ((hu_ne (by omega)).trans ((hu_ne (by omega)).trans ((hf7 (a + 11) (by omega) (by omega) (by omega) (by omega)).trans ((hu_ne (by omega)).trans ((hu_ne (by omega)).trans ((hf6 (a + 11) (by omega) (by omega)).trans ((hu_ne (by omega)).trans ((hu_ne (by omega)).trans ((hf5 (a + 11) (by omega) (by omega)).trans ((hu_ne (by omega)).trans ((hu_ne (by omega)).trans ((hu_ne (by omega)).trans ((hu_ne (by omega)).trans hw4_2)))))))))))))))))), ((hu_ne (by omega)).trans ((hf9 (a + 12) (by omega) (by omega) (by omega) (by omega)).trans ((hu_ne (by omega)).trans ((hu_ne (by omega)).trans ((hf8 (a + 12) (by omega) (by omega) (by omega) (by omega)).trans ((hu_ne (by omega)).trans ((hu_ne (by omega)).trans ((hf7 (a + 12) (by omega) (by omega) (by omega) (by omega)).trans ((hu_ne (by omega)).trans ((hu_ne (by omega)).trans ((hf6 (a + 12) (by omega) (by omega)).trans ((hu_ne (by omega)).trans ((hu_ne (by omega)).trans ((hf5 (a + 12) (by omega) (by omega)).trans ((hu_ne (by omega)).trans ((hu_ne (by omega)).trans ((hu_ne (by omega)).trans ((hu_ne (by omega)).trans hw4_0)))))))))))))))))), ((hu_ne (by omega)).trans ((hf9 (a + 13) (by omega) (by omega) (by omega) (by omega)).trans ((hu_ne (by omega)).trans ((hu_ne (by omega)).trans ((hf8 (a + 13) (by omega) (by omega) (by omega) (by omega)).trans ((hu_ne (by omega)).trans ((hu_ne (by omega)).trans ((hf7 (a + 13) (by omega) (by omega) (by omega) (by omega)).trans ((hu_ne (by omega)).trans ((hu_ne (by omega)).trans ((hf6 (a + 13) (by omega) (by omega)).trans ((hu_ne (by omega)).trans ((hu_ne (by omega)).trans ((hf5 (a + 13) (by omega) (by omega)).trans ((hu_ne (by omega)).trans ((hu_ne (by omega)).trans ((hu_ne (by omega)).trans ((hu_ne (by omega)).trans hw4_1)))))))))))))))))), ((hu_ne (by omega)).trans ((hf9 (a + 14) (by omega) (by omega) (by omega) (by omega)).trans ((hu_ne (by omega)).trans ((hu_ne (by omega)).trans ((hf8 (a + 14) (by omega) (by omega) (by omega) (by omega)).trans ((hu_ne (by omega)).trans ((hu_ne (by omega)).trans ((hf7 (a + 14) (by omega) (by omega) (by omega) (by omega)).trans ((hu_ne (by omega)).trans ((hu_ne (by omega)).trans ((hf6 (a + 14) (by omega) (by omega)).trans ((hu_ne (by omega)).trans ((hu_ne (by omega)).trans ((hf5 (a + 14) (by omega) (by omega)).trans ((hu_ne (by omega)).trans ((hu_ne (by omega)).trans ((hu_ne (by omega)).trans ((hu_ne (by omega)).trans hw4_3)))))))))))))))))), ((hu_ne (by omega)).trans ((hf9 (a + 15) (by omega) (by omega) (by omega) (by omega)).trans ((hu_ne (by omega)).trans ((hu_ne (by omega)).trans ((hf8 (a + 15) (by omega) (by omega) (by omega) (by omega)).trans ((hu_ne (by omega)).trans ((hu_ne (by omega)).trans ((hf7 (a + 15) (by omega) (by omega) (by omega) (by omega)).trans ((hu_ne (by omega)).trans ((hu_ne (by omega)).trans ((hf6 (a + 15) (by omega) (by omega)).trans ((hu_ne (by omega)).trans ((hu_ne (by omega)).trans ((hf5 (a + 15) (by omega) (by omega)).trans ((hu_ne (by omega)).trans ((hu_ne (by omega)).trans ((hu_ne (by omega)).trans ((hu_ne (by omega)).trans hw4_4)))))))))))))))))), ((hu_ne (by omega)).trans ((hf9 (a + 16) (by omega) (by omega) (by omega) (by omega)).trans ((hu_ne (by omega)).trans ((hu_ne (by omega)).trans ((hf8 (a + 16) (by omega) (by omega) (by omega) (by omega)).trans ((hu_ne (by omega)).trans ((hu_ne (by omega)).trans ((hf7 (a + 16) (by omega) (by omega) (by omega) (by omega)).trans ((hu_ne (by omega)).trans ((hu_ne (by omega)).trans ((hf6 (a + 16) (by omega) (by omega)).trans ((hu_ne (by omega)).trans ((hu_ne (by omega)).trans ((hf5 (a + 16) (by omega) (by omega)).trans ((hu_ne (by omega)).trans ((hu_ne (by omega)).trans ((hu_ne (by omega)).trans ((hu_ne (by omega)).trans hw4_5)))))))))))))))))), ((hu_ne (by omega)).trans ((hf9 (a + 17) (by omega) (by omega) (by omega) (by omega)).trans ((hu_ne (by omega)).trans ((hu_ne (by omega)).trans ((hf8 (a + 17) (by omega) (by omega) (by omega) (by omega)).trans ((hu_ne (by omega)).trans ((hu_ne (by omega)).trans ((hf7 (a + 17) (by omega) (by omega) (by omega) (by omega)).trans ((hu_ne (by omega)).trans ((hu_ne (by omega)).trans ((hf6 (a + 17) (by omega) (by omega)).trans ((hu_ne (by omega)).trans ((hu_ne (by omega)).trans hw5_1))))))))))))), ((hu_ne (by omega)).trans ((hf9 (a + 18) (by omega) (by omega) (by omega) (by omega)).trans ((hu_ne (by omega)).trans ((hu_ne (by omega)).trans ((hf8 (a + 18) (by omega) (by omega) (by omega) (by omega)).trans ((hu_ne (by omega)).trans ((hu_ne (by omega)).trans ((hf7 (a + 18) (by omega) (by omega) (by omega) (by omega)).trans ((hu_ne (by omega)).trans ((hu_ne (by omega)).trans ((hf6 (a + 18) (by omega) (by omega)).trans ((hu_ne (by omega)).trans ((hu_ne (by omega)).trans hw5_0))))))))))))), ((hu_ne (by omega)).trans ((hf9 (a + 19) (by omega) (by omega) (by omega) (by omega)).trans ((hu_ne (by omega)).trans ((hu_ne (by omega)).trans ((hf8 (a + 19) (by omega) (by omega) (by omega) (by omega)).trans ((hu_ne (by omega)).trans ((hu_ne (by omega)).trans ((hf7 (a + 19) (by omega) (by omega) (by omega) (by omega)).trans ((hu_ne (by omega)).trans ((hu_ne (by omega)).trans hw6_1)))))))))), ((hu_ne (by omega)).trans ((hf9 (a + 20) (by omega) (by omega) (by omega) (by omega)).trans ((hu_ne (by omega)).trans ((hu_ne (by omega)).trans ((hf8 (a + 20) (by omega) (by omega) (by omega) (by omega)).trans ((hu_ne (by omega)).trans ((hu_ne (by omega)).trans ((hf7 (a + 20) (by omega) (by omega) (by omega) (by omega)).trans ((hu_ne (by omega)).trans ((hu_ne (by omega)).trans hw6_0)))))))))), ((hu_ne (by omega)).trans ((hf9 (a + 21) (by omega) (by omega) (by omega) (by omega)).trans ((hu_ne (by omega)).trans ((hu_ne (by omega)).trans ((hf8 (a + 21) (by omega) (by omega) (by omega) (by omega)).trans ((hu_ne (by omega)).trans ((hu_ne (by omega)).trans hw7_2))))))), ((hu_ne (by omega)).trans ((hf9 (a + 22) (by omega) (by omega) (by omega) (by omega)).trans ((hu_ne (by omega)).trans ((hu_ne (by omega)).trans ((hf8 (a + 22) (by omega) (by omega) (by omega) (by omega)).trans ((hu_ne (by omega)).trans ((hu_ne (by omega)).trans hw7_0))))))), ((hu_ne (by omega)).trans ((hf9 (a + 23) (by omega) (by omega) (by omega) (by omega)).trans ((hu_ne (by omega)).trans ((hu_ne (by omega)).trans ((hf8 (a + 23) (by omega) (by omega) (by omega) (by omega)).trans ((hu_ne (by omega)).trans ((hu_ne (by omega)).trans hw7_1))))))), ((hu_ne (by omega)).trans ((hf9 (a + 24) (by omega) (by omega) (by omega) (by omega)).trans ((hu_ne (by omega)).trans ((hu_ne (by omega)).trans ((hf8 (a + 24) (by omega) (by omega) (by omega) (by omega)).trans ((hu_ne (by omega)).trans ((hu_ne (by omega)).trans hw7_3))))))), ((hu_ne (by omega)).trans ((hf9 (a + 25) (by omega) (by omega) (by omega) (by omega)).trans ((hu_ne (by omega)).trans ((hu_ne (by omega)).trans hw8_2)))), ((hu_ne (by omega)).trans ((hf9 (a + 26) (by omega) (by omega) (by omega) (by omega)).trans ((hu_ne (by omega)).trans ((hu_ne (by omega)).trans hw8_0)))), ((hu_ne (by omega)).trans ((hf9 (a + 27) (by omega) (by omega) (by omega) (by omega)).trans ((hu_ne (by omega)).trans ((hu_ne (by omega)).trans hw8_1)))), ((hu_ne (by omega)).trans ((hf9 (a + 28) (by omega) (by omega) (by omega) (by omega)).trans ((hu_ne (by omega)).trans ((hu_ne (by omega)).trans hw8_3)))), ((hu_ne (by omega)).trans hw9_2), ((hu_ne (by omega)).trans hw9_0), ((hu_ne (by omega)).trans hw9_1), ((hu_ne (by omega)).trans hw9_3)⟩
def k_Ro_clear : MS := ("VaryStore$Row", b_Ro_clear, 1, none, "clear", { frames := 0, cells := 0, slots := 0, locals := 0 }, [])
set_option maxRecDepth 100000 in
set_option maxHeartbeats 4000000 in
theorem c_Ro_clear (Γ : GE) (a : Nat) (x : Nat) (z : Int) {M : HM} {n : Nat}  (p0 : M (a) = some (.inr (2, [.ref (x), .int (iI (z))]))) : CT Γ k_Ro_clear y_Ro_clear [.ref (a)] M (n) (fun v M' n' => n = n' ∧ (∀ q, q ≠ a → M' q = M q) ∧ v = none ∧ M' (a) = some (.inr (2, [.ref (x), .int (iI (0))]))) := by
  refine CT.of (by decide) rfl rfl 0 rfl (Nat.le_of_ble_eq_true rfl) rfl ?_
  refine g_aload_n d_Ro_clear_0 rfl ?_
  refine g_iconst d_Ro_clear_1 ?_
  refine g_put fa_Ro_15 d_Ro_clear_2 p0 (Nat.le_of_ble_eq_true rfl) rfl rfl rfl ?_
  refine g_vret d_Ro_clear_5 rfl ?_ (by decide) (by decide)
  exact ⟨rfl, fun q e0 => ((hu_ne (by omega)).trans rfl), rfl, (hu_same _ _ _)⟩
def k_Ro_copy0 : MS := ("VaryStore$Row", b_Ro_copy, 2, none, "copy", { frames := 1, cells := 0, slots := 0, locals := 40 }, [])
set_option maxRecDepth 100000 in
set_option maxHeartbeats 4000000 in
theorem c_Ro_copy0 (Γ : GE) (a : Nat) (b : Nat) (z : Int) (f : Nat → Int32) (g : Nat → Int32) {M : HM} {n : Nat} (hab : a + 2 ≤ b ∨ b + 2 ≤ a) (p0 : M (a) = some (.inr (2, [.ref (a + 1), .int (iI (z))]))) (p1 : M (a + 1) = some (.inl (Γ.2.2.1 0, 300, .inl (f)))) (p2 : M (b) = some (.inr (2, [.ref (b + 1), .int (iI (0))]))) (p3 : M (b + 1) = some (.inl (Γ.2.2.1 0, 300, .inl (g)))) : CT Γ k_Ro_copy0 y_Ro_copy [.ref (a), .ref (b)] M (n) (fun v M' n' => n = n' ∧ (∀ q, q ≠ a + 1 → q ≠ a → M' q = M q) ∧ v = none ∧ M' (a + 1) = some (.inl (Γ.2.2.1 0, 300, .inl (f))) ∧ M' (a) = some (.inr (2, [.ref (a + 1), .int (iI (0))]))) := by
  refine CT.of (by decide) rfl rfl 0 rfl (Nat.le_of_ble_eq_true rfl) rfl ?_
  refine g_aload_n d_Ro_copy_0 rfl ?_
  refine g_get fa_Ro_9 d_Ro_copy_1 p2 rfl ?_
  refine g_iconst d_Ro_copy_4 ?_
  refine g_aload_n d_Ro_copy_5 rfl ?_
  refine g_get fa_Ro_9 d_Ro_copy_6 p0 rfl ?_
  refine g_iconst d_Ro_copy_9 ?_
  refine g_aload_n d_Ro_copy_10 rfl ?_
  refine g_get fa_Ro_15 d_Ro_copy_11 p2 rfl ?_
  refine g_copy (sp := 0) (dp := 0) (k := 0) 0 rfl (by decide) d_Ro_copy_14 w_230 w_232 w_231 w_37 p3 p1 (by omega) (by omega) (by omega) (by omega) (fun i hi => absurd hi (by omega)) (by decide) (Nat.le_of_ble_eq_true rfl) ?_
  rw [va_cpy0]
  refine g_aload_n d_Ro_copy_17 rfl ?_
  refine g_aload_n d_Ro_copy_18 rfl ?_
  refine g_get fa_Ro_15 d_Ro_copy_19 ((hu_ne (by omega)).trans p2) rfl ?_
  refine g_put fa_Ro_15 d_Ro_copy_22 ((hu_ne (by omega)).trans p0) (Nat.le_of_ble_eq_true rfl) rfl rfl rfl ?_
  refine g_vret d_Ro_copy_25 rfl ?_ (by decide) (by decide)
  exact ⟨rfl, fun q e0 e1 => ((hu_ne (by omega)).trans ((hu_ne (by omega)).trans rfl)), rfl, ((hu_ne (by omega)).trans (hu_same _ _ _)), (hu_same _ _ _)⟩
end
section
theorem d_St_coder_0 : decode b_St_coder 0 = .ok (.getstatic 38, 3) := by decide +kernel
theorem d_St_coder_3 : decode b_St_coder 3 = .ok (.ifCond .eq 10, 3) := by decide +kernel
theorem d_St_coder_6 : decode b_St_coder 6 = .ok (.aload_n 0, 1) := by decide +kernel
theorem d_St_coder_7 : decode b_St_coder 7 = .ok (.getfield 15, 3) := by decide +kernel
theorem d_St_coder_10 : decode b_St_coder 10 = .ok (.goto 4, 3) := by decide +kernel
theorem d_St_coder_14 : decode b_St_coder 14 = .ok (.ireturn, 1) := by decide +kernel
theorem d_St_isLatin1_0 : decode b_St_isLatin1 0 = .ok (.getstatic 38, 3) := by decide +kernel
theorem d_St_isLatin1_3 : decode b_St_isLatin1 3 = .ok (.ifCond .eq 14, 3) := by decide +kernel
theorem d_St_isLatin1_6 : decode b_St_isLatin1 6 = .ok (.aload_n 0, 1) := by decide +kernel
theorem d_St_isLatin1_7 : decode b_St_isLatin1 7 = .ok (.getfield 15, 3) := by decide +kernel
theorem d_St_isLatin1_10 : decode b_St_isLatin1 10 = .ok (.ifCond .ne 7, 3) := by decide +kernel
theorem d_St_isLatin1_13 : decode b_St_isLatin1 13 = .ok (.iconst 1, 1) := by decide +kernel
theorem d_St_isLatin1_14 : decode b_St_isLatin1 14 = .ok (.goto 4, 3) := by decide +kernel
theorem d_St_isLatin1_18 : decode b_St_isLatin1 18 = .ok (.ireturn, 1) := by decide +kernel
theorem d_St_length_0 : decode b_St_length 0 = .ok (.aload_n 0, 1) := by decide +kernel
theorem d_St_length_1 : decode b_St_length 1 = .ok (.getfield 9, 3) := by decide +kernel
theorem d_St_length_4 : decode b_St_length 4 = .ok (.arraylength, 1) := by decide +kernel
theorem d_St_length_5 : decode b_St_length 5 = .ok (.aload_n 0, 1) := by decide +kernel
theorem d_St_length_6 : decode b_St_length 6 = .ok (.invokevirtual 335, 3) := by decide +kernel
theorem d_St_length_9 : decode b_St_length 9 = .ok (.ishr, 1) := by decide +kernel
theorem d_St_length_10 : decode b_St_length 10 = .ok (.ireturn, 1) := by decide +kernel
theorem d_Pr_checkIndex_0 : decode b_Pr_checkIndex 0 = .ok (.iload_n 0, 1) := by decide +kernel
theorem d_Pr_checkIndex_1 : decode b_Pr_checkIndex 1 = .ok (.ifCond .lt 8, 3) := by decide +kernel
theorem d_Pr_checkIndex_4 : decode b_Pr_checkIndex 4 = .ok (.iload_n 0, 1) := by decide +kernel
theorem d_Pr_checkIndex_5 : decode b_Pr_checkIndex 5 = .ok (.iload_n 1, 1) := by decide +kernel
theorem d_Pr_checkIndex_6 : decode b_Pr_checkIndex 6 = .ok (.if_icmp .lt 10, 3) := by decide +kernel
theorem d_Pr_checkIndex_16 : decode b_Pr_checkIndex 16 = .ok (.iload_n 0, 1) := by decide +kernel
theorem d_Pr_checkIndex_17 : decode b_Pr_checkIndex 17 = .ok (.ireturn, 1) := by decide +kernel
theorem d_St_checkIndex_0 : decode b_St_checkIndex 0 = .ok (.iload_n 0, 1) := by decide +kernel
theorem d_St_checkIndex_1 : decode b_St_checkIndex 1 = .ok (.iload_n 1, 1) := by decide +kernel
theorem d_St_checkIndex_2 : decode b_St_checkIndex 2 = .ok (.getstatic 1053, 3) := by decide +kernel
theorem d_St_checkIndex_5 : decode b_St_checkIndex 5 = .ok (.invokestatic 1059, 3) := by decide +kernel
theorem d_St_checkIndex_8 : decode b_St_checkIndex 8 = .ok (.pop, 1) := by decide +kernel
theorem d_St_checkIndex_9 : decode b_St_checkIndex 9 = .ok (.return_, 1) := by decide +kernel
theorem d_L1_charAt_0 : decode b_L1_charAt 0 = .ok (.iload_n 1, 1) := by decide +kernel
theorem d_L1_charAt_1 : decode b_L1_charAt 1 = .ok (.aload_n 0, 1) := by decide +kernel
theorem d_L1_charAt_2 : decode b_L1_charAt 2 = .ok (.arraylength, 1) := by decide +kernel
theorem d_L1_charAt_3 : decode b_L1_charAt 3 = .ok (.invokestatic 9, 3) := by decide +kernel
theorem d_L1_charAt_6 : decode b_L1_charAt 6 = .ok (.aload_n 0, 1) := by decide +kernel
theorem d_L1_charAt_7 : decode b_L1_charAt 7 = .ok (.iload_n 1, 1) := by decide +kernel
theorem d_L1_charAt_8 : decode b_L1_charAt 8 = .ok (.baload, 1) := by decide +kernel
theorem d_L1_charAt_9 : decode b_L1_charAt 9 = .ok (.sipush 255, 3) := by decide +kernel
theorem d_L1_charAt_12 : decode b_L1_charAt 12 = .ok (.iand, 1) := by decide +kernel
theorem d_L1_charAt_13 : decode b_L1_charAt 13 = .ok (.i2c, 1) := by decide +kernel
theorem d_L1_charAt_14 : decode b_L1_charAt 14 = .ok (.ireturn, 1) := by decide +kernel
theorem d_St_charAt_0 : decode b_St_charAt 0 = .ok (.aload_n 0, 1) := by decide +kernel
theorem d_St_charAt_1 : decode b_St_charAt 1 = .ok (.invokevirtual 492, 3) := by decide +kernel
theorem d_St_charAt_4 : decode b_St_charAt 4 = .ok (.ifCond .eq 12, 3) := by decide +kernel
theorem d_St_charAt_7 : decode b_St_charAt 7 = .ok (.aload_n 0, 1) := by decide +kernel
theorem d_St_charAt_8 : decode b_St_charAt 8 = .ok (.getfield 9, 3) := by decide +kernel
theorem d_St_charAt_11 : decode b_St_charAt 11 = .ok (.iload_n 1, 1) := by decide +kernel
theorem d_St_charAt_12 : decode b_St_charAt 12 = .ok (.invokestatic 495, 3) := by decide +kernel
theorem d_St_charAt_15 : decode b_St_charAt 15 = .ok (.ireturn, 1) := by decide +kernel
theorem d_Ro_add_0 : decode b_Ro_add 0 = .ok (.aload_n 0, 1) := by decide +kernel
theorem d_Ro_add_1 : decode b_Ro_add 1 = .ok (.getfield 15, 3) := by decide +kernel
theorem d_Ro_add_4 : decode b_Ro_add 4 = .ok (.aload_n 0, 1) := by decide +kernel
theorem d_Ro_add_5 : decode b_Ro_add 5 = .ok (.getfield 9, 3) := by decide +kernel
theorem d_Ro_add_8 : decode b_Ro_add 8 = .ok (.arraylength, 1) := by decide +kernel
theorem d_Ro_add_9 : decode b_Ro_add 9 = .ok (.if_icmp .ge 23, 3) := by decide +kernel
theorem d_Ro_add_12 : decode b_Ro_add 12 = .ok (.aload_n 0, 1) := by decide +kernel
theorem d_Ro_add_13 : decode b_Ro_add 13 = .ok (.getfield 9, 3) := by decide +kernel
theorem d_Ro_add_16 : decode b_Ro_add 16 = .ok (.aload_n 0, 1) := by decide +kernel
theorem d_Ro_add_17 : decode b_Ro_add 17 = .ok (.getfield 15, 3) := by decide +kernel
theorem d_Ro_add_20 : decode b_Ro_add 20 = .ok (.iload_n 1, 1) := by decide +kernel
theorem d_Ro_add_21 : decode b_Ro_add 21 = .ok (.castore, 1) := by decide +kernel
theorem d_Ro_add_22 : decode b_Ro_add 22 = .ok (.aload_n 0, 1) := by decide +kernel
theorem d_Ro_add_23 : decode b_Ro_add 23 = .ok (.dup, 1) := by decide +kernel
theorem d_Ro_add_24 : decode b_Ro_add 24 = .ok (.getfield 15, 3) := by decide +kernel
theorem d_Ro_add_27 : decode b_Ro_add 27 = .ok (.iconst 1, 1) := by decide +kernel
theorem d_Ro_add_28 : decode b_Ro_add 28 = .ok (.iadd, 1) := by decide +kernel
theorem d_Ro_add_29 : decode b_Ro_add 29 = .ok (.putfield 15, 3) := by decide +kernel
theorem d_Ro_add_32 : decode b_Ro_add 32 = .ok (.return_, 1) := by decide +kernel
theorem d_Ro_set_7 : decode b_Ro_set 7 = .ok (.iload_n 2, 1) := by decide +kernel
theorem d_Ro_set_8 : decode b_Ro_set 8 = .ok (.aload_n 1, 1) := by decide +kernel
theorem d_Ro_set_9 : decode b_Ro_set 9 = .ok (.invokevirtual 25, 3) := by decide +kernel
theorem d_Ro_set_12 : decode b_Ro_set 12 = .ok (.if_icmp .ge 18, 3) := by decide +kernel
theorem d_Ro_set_30 : decode b_Ro_set 30 = .ok (.return_, 1) := by decide +kernel
theorem d_Ro_set_15 : decode b_Ro_set 15 = .ok (.aload_n 0, 1) := by decide +kernel
theorem d_Ro_set_16 : decode b_Ro_set 16 = .ok (.aload_n 1, 1) := by decide +kernel
theorem d_Ro_set_17 : decode b_Ro_set 17 = .ok (.iload_n 2, 1) := by decide +kernel
theorem d_Ro_set_18 : decode b_Ro_set 18 = .ok (.invokevirtual 30, 3) := by decide +kernel
theorem d_Ro_set_21 : decode b_Ro_set 21 = .ok (.invokevirtual 34, 3) := by decide +kernel
theorem d_Ro_set_24 : decode b_Ro_set 24 = .ok (.iinc 2 1, 3) := by decide +kernel
theorem d_Ro_set_27 : decode b_Ro_set 27 = .ok (.goto (-20), 3) := by decide +kernel
theorem d_Ro_set_0 : decode b_Ro_set 0 = .ok (.aload_n 0, 1) := by decide +kernel
theorem d_Ro_set_1 : decode b_Ro_set 1 = .ok (.iconst 0, 1) := by decide +kernel
theorem d_Ro_set_2 : decode b_Ro_set 2 = .ok (.putfield 15, 3) := by decide +kernel
theorem d_Ro_set_5 : decode b_Ro_set 5 = .ok (.iconst 0, 1) := by decide +kernel
theorem d_Ro_set_6 : decode b_Ro_set 6 = .ok (.istore_n 2, 1) := by decide +kernel
set_option maxRecDepth 20000 in
theorem w_350 : Cond.fieldLink "java/lang/String" 38 "java/lang/String" "COMPACT_STRINGS" "Z"  ∈ TB := tb_in 350 (by decide +kernel) (by decide +kernel)
set_option maxRecDepth 20000 in
theorem w_984 : Cond.fieldLink "java/lang/String" 15 "java/lang/String" "coder" "B" ∈ TB := tb_in 984 (by decide +kernel) (by decide +kernel)
set_option maxRecDepth 20000 in
theorem w_983 : Cond.fieldLink "java/lang/String" 9 "java/lang/String" "value" "[B" ∈ TB := tb_in 983 (by decide +kernel) (by decide +kernel)
set_option maxRecDepth 20000 in
theorem w_43 : Cond.initialized "java/lang/String" ∈ TB := tb_in 43 (by decide +kernel) (by decide +kernel)
set_option maxRecDepth 20000 in
theorem w_349 : Cond.code ⟨"java/lang/String", "coder", "()B"⟩ prog_15_method_152_code 1 (some .byte) ∈ TB := tb_in 349 (by decide +kernel) (by decide +kernel)
set_option maxRecDepth 20000 in
theorem w_346 : Cond.methodLink "java/lang/String" 335 ⟨"java/lang/String", "coder", "()B"⟩ ∈ TB := tb_in 346 (by decide +kernel) (by decide +kernel)
set_option maxRecDepth 20000 in
theorem w_347 : Cond.instanceMethod ⟨"java/lang/String", "coder", "()B"⟩ ∈ TB := tb_in 347 (by decide +kernel) (by decide +kernel)
set_option maxRecDepth 20000 in
theorem w_348 : Cond.selects "java/lang/String" ⟨"java/lang/String", "coder", "()B"⟩ ⟨"java/lang/String", "coder", "()B"⟩ ∈ TB := tb_in 348 (by decide +kernel) (by decide +kernel)
set_option maxRecDepth 20000 in
theorem w_366 : Cond.fieldLink "java/lang/String" 1053 "jdk/internal/util/Preconditions" "SIOOBE_FORMATTER" "Ljava/util/function/BiFunction;" ∈ TB := tb_in 366 (by decide +kernel) (by decide +kernel)
set_option maxRecDepth 20000 in
theorem w_45 : Cond.initialized "jdk/internal/util/Preconditions" ∈ TB := tb_in 45 (by decide +kernel) (by decide +kernel)
set_option maxRecDepth 20000 in
theorem w_370 : Cond.code ⟨"jdk/internal/util/Preconditions", "checkIndex", "(IILjava/util/function/BiFunction;)I"⟩ prog_21_method_11_code 3 (some .int) ∈ TB := tb_in 370 (by decide +kernel) (by decide +kernel)
set_option maxRecDepth 20000 in
theorem w_368 : Cond.methodLink "java/lang/String" 1059 ⟨"jdk/internal/util/Preconditions", "checkIndex", "(IILjava/util/function/BiFunction;)I"⟩ ∈ TB := tb_in 368 (by decide +kernel) (by decide +kernel)
set_option maxRecDepth 20000 in
theorem w_369 : Cond.static ⟨"jdk/internal/util/Preconditions", "checkIndex", "(IILjava/util/function/BiFunction;)I"⟩ ∈ TB := tb_in 369 (by decide +kernel) (by decide +kernel)
set_option maxRecDepth 20000 in
theorem w_365 : Cond.code ⟨"java/lang/String", "checkIndex", "(II)V"⟩ prog_15_method_155_code 2 none ∈ TB := tb_in 365 (by decide +kernel) (by decide +kernel)
set_option maxRecDepth 20000 in
theorem w_363 : Cond.methodLink "java/lang/StringLatin1" 9 ⟨"java/lang/String", "checkIndex", "(II)V"⟩ ∈ TB := tb_in 363 (by decide +kernel) (by decide +kernel)
set_option maxRecDepth 20000 in
theorem w_364 : Cond.static ⟨"java/lang/String", "checkIndex", "(II)V"⟩ ∈ TB := tb_in 364 (by decide +kernel) (by decide +kernel)
set_option maxRecDepth 20000 in
theorem w_359 : Cond.code ⟨"java/lang/String", "isLatin1", "()Z"⟩ prog_15_method_154_code 1 (some .boolean) ∈ TB := tb_in 359 (by decide +kernel) (by decide +kernel)
set_option maxRecDepth 20000 in
theorem w_356 : Cond.methodLink "java/lang/String" 492 ⟨"java/lang/String", "isLatin1", "()Z"⟩ ∈ TB := tb_in 356 (by decide +kernel) (by decide +kernel)
set_option maxRecDepth 20000 in
theorem w_357 : Cond.instanceMethod ⟨"java/lang/String", "isLatin1", "()Z"⟩ ∈ TB := tb_in 357 (by decide +kernel) (by decide +kernel)
set_option maxRecDepth 20000 in
theorem w_358 : Cond.selects "java/lang/String" ⟨"java/lang/String", "isLatin1", "()Z"⟩ ⟨"java/lang/String", "isLatin1", "()Z"⟩ ∈ TB := tb_in 358 (by decide +kernel) (by decide +kernel)
set_option maxRecDepth 20000 in
theorem w_44 : Cond.initialized "java/lang/StringLatin1" ∈ TB := tb_in 44 (by decide +kernel) (by decide +kernel)
set_option maxRecDepth 20000 in
theorem w_362 : Cond.code ⟨"java/lang/StringLatin1", "charAt", "([BI)C"⟩ prog_16_method_2_code 2 (some .char) ∈ TB := tb_in 362 (by decide +kernel) (by decide +kernel)
set_option maxRecDepth 20000 in
theorem w_360 : Cond.methodLink "java/lang/String" 495 ⟨"java/lang/StringLatin1", "charAt", "([BI)C"⟩ ∈ TB := tb_in 360 (by decide +kernel) (by decide +kernel)
set_option maxRecDepth 20000 in
theorem w_361 : Cond.static ⟨"java/lang/StringLatin1", "charAt", "([BI)C"⟩ ∈ TB := tb_in 361 (by decide +kernel) (by decide +kernel)
set_option maxRecDepth 20000 in
theorem w_345 : Cond.code ⟨"java/lang/String", "length", "()I"⟩ prog_15_method_54_code 1 (some .int) ∈ TB := tb_in 345 (by decide +kernel) (by decide +kernel)
set_option maxRecDepth 20000 in
theorem w_342 : Cond.methodLink "VaryStore$Row" 25 ⟨"java/lang/String", "length", "()I"⟩ ∈ TB := tb_in 342 (by decide +kernel) (by decide +kernel)
set_option maxRecDepth 20000 in
theorem w_343 : Cond.instanceMethod ⟨"java/lang/String", "length", "()I"⟩ ∈ TB := tb_in 343 (by decide +kernel) (by decide +kernel)
set_option maxRecDepth 20000 in
theorem w_344 : Cond.selects "java/lang/String" ⟨"java/lang/String", "length", "()I"⟩ ⟨"java/lang/String", "length", "()I"⟩ ∈ TB := tb_in 344 (by decide +kernel) (by decide +kernel)
set_option maxRecDepth 20000 in
theorem w_355 : Cond.code ⟨"java/lang/String", "charAt", "(I)C"⟩ prog_15_method_56_code 2 (some .char) ∈ TB := tb_in 355 (by decide +kernel) (by decide +kernel)
set_option maxRecDepth 20000 in
theorem w_352 : Cond.methodLink "VaryStore$Row" 30 ⟨"java/lang/String", "charAt", "(I)C"⟩ ∈ TB := tb_in 352 (by decide +kernel) (by decide +kernel)
set_option maxRecDepth 20000 in
theorem w_353 : Cond.instanceMethod ⟨"java/lang/String", "charAt", "(I)C"⟩ ∈ TB := tb_in 353 (by decide +kernel) (by decide +kernel)
set_option maxRecDepth 20000 in
theorem w_354 : Cond.selects "java/lang/String" ⟨"java/lang/String", "charAt", "(I)C"⟩ ⟨"java/lang/String", "charAt", "(I)C"⟩ ∈ TB := tb_in 354 (by decide +kernel) (by decide +kernel)
set_option maxRecDepth 20000 in
theorem w_185 : Cond.code ⟨"VaryStore$Row", "add", "(C)V"⟩ prog_3_method_3_code 2 none ∈ TB := tb_in 185 (by decide +kernel) (by decide +kernel)
set_option maxRecDepth 20000 in
theorem w_390 : Cond.methodLink "VaryStore$Row" 34 ⟨"VaryStore$Row", "add", "(C)V"⟩ ∈ TB := tb_in 390 (by decide +kernel) (by decide +kernel)
set_option maxRecDepth 20000 in
theorem w_183 : Cond.instanceMethod ⟨"VaryStore$Row", "add", "(C)V"⟩ ∈ TB := tb_in 183 (by decide +kernel) (by decide +kernel)
set_option maxRecDepth 20000 in
theorem w_184 : Cond.selects "VaryStore$Row" ⟨"VaryStore$Row", "add", "(C)V"⟩ ⟨"VaryStore$Row", "add", "(C)V"⟩ ∈ TB := tb_in 184 (by decide +kernel) (by decide +kernel)
def k_St_coder : MS := ("java/lang/String", b_St_coder, 1, (some .byte), "coder", { frames := 0, cells := 0, slots := 0, locals := 0 }, [])
set_option maxRecDepth 100000 in
set_option maxHeartbeats 4000000 in
theorem c_St_coder (Γ : GE) (li : Nat) {M : HM} {n : Nat} (hl : li < nLit)  : CT Γ k_St_coder y_St_coder [.ref (Γ.2.2.2.1 li)] M (n) (fun v M' n' => n = n' ∧ (∀ q, M' q = M q) ∧ v = some (.int (iI (0)))) := by
  refine CT.of (by decide) rfl rfl 0 rfl (Nat.le_of_ble_eq_true rfl) rfl ?_
  refine g_compact w_350 d_St_coder_0 ?_
  refine g_if_eq (tgt := 13) d_St_coder_3 (by decide) (fun h1 => False.elim (by omega)) (fun _ => ?_)
  refine g_aload_n d_St_coder_6 rfl ?_
  refine g_litCoder hl w_984 d_St_coder_7 ?_
  refine g_goto (tgt := 14) d_St_coder_10 (by decide) ?_
  refine g_zret (ty := .byte) (by first | rfl | exact nar_char (by omega)) d_St_coder_14 rfl ?_ (by decide) (by decide)
  exact ⟨rfl, fun q  => rfl, rfl⟩
def k_St_isLatin1 : MS := ("java/lang/String", b_St_isLatin1, 1, (some .boolean), "isLatin1", { frames := 0, cells := 0, slots := 0, locals := 0 }, [])
set_option maxRecDepth 100000 in
set_option maxHeartbeats 4000000 in
theorem c_St_isLatin1 (Γ : GE) (li : Nat) {M : HM} {n : Nat} (hl : li < nLit)  : CT Γ k_St_isLatin1 y_St_isLatin1 [.ref (Γ.2.2.2.1 li)] M (n) (fun v M' n' => n = n' ∧ (∀ q, M' q = M q) ∧ v = some (.int (iI (1)))) := by
  refine CT.of (by decide) rfl rfl 0 rfl (Nat.le_of_ble_eq_true rfl) rfl ?_
  refine g_compact w_350 d_St_isLatin1_0 ?_
  refine g_if_eq (tgt := 17) d_St_isLatin1_3 (by decide) (fun h1 => False.elim (by omega)) (fun _ => ?_)
  refine g_aload_n d_St_isLatin1_6 rfl ?_
  refine g_litCoder hl w_984 d_St_isLatin1_7 ?_
  refine g_if_ne (tgt := 17) d_St_isLatin1_10 (by decide) (fun h2 => False.elim (by omega)) (fun _ => ?_)
  refine g_iconst d_St_isLatin1_13 ?_
  refine g_goto (tgt := 18) d_St_isLatin1_14 (by decide) ?_
  refine g_zret (ty := .boolean) (by first | rfl | exact nar_char (by omega)) d_St_isLatin1_18 rfl ?_ (by decide) (by decide)
  exact ⟨rfl, fun q  => rfl, rfl⟩
def k_St_length : MS := ("java/lang/String", b_St_length, 1, (some .int), "length", { frames := 1, cells := 0, slots := 0, locals := 20 }, [])
set_option maxRecDepth 100000 in
set_option maxHeartbeats 4000000 in
theorem c_St_length (Γ : GE) (li : Nat) {M : HM} {n : Nat} (hl : li < nLit)  : CT Γ k_St_length y_St_length [.ref (Γ.2.2.2.1 li)] M (n) (fun v M' n' => n = n' ∧ (∀ q, M' q = M q) ∧ v = some (.int (iI ((lenLit.getD li 0 : Nat))))) := by
  refine CT.of (by decide) rfl rfl 0 rfl (Nat.le_of_ble_eq_true rfl) rfl ?_
  refine g_aload_n d_St_length_0 rfl ?_
  refine g_litValue hl w_983 d_St_length_1 ?_
  refine g_litLen hl d_St_length_4 ?_
  refine g_aload_n d_St_length_5 rfl ?_
  refine g_callL0 (ν := k_St_coder) hl ⟨w_346, w_43, w_349, by decide, by decide, by decide +kernel⟩ w_347 w_348 rfl (c_St_coder Γ (li) (by first | omega | decide | (have h9 := lenLit_le li; omega)) ) d_St_length_6 ⟨⟨by decide, by decide⟩, ⟨by decide, by decide⟩⟩ (Nat.le_of_ble_eq_true rfl) (fun v1 M1 n1 hQ1 hn1 hd1 => ?_)
  obtain ⟨rfl, hf1, rfl⟩ := hQ1
  refine g_ishr d_St_length_9 (shr0 _) ?_
  refine g_iret d_St_length_10 rfl ?_ (by decide) (by decide)
  exact ⟨rfl, fun q  => ((hf1 q ).trans rfl), rfl⟩
def k_Pr_ci0 : MS := ("jdk/internal/util/Preconditions", b_Pr_checkIndex, 3, (some .int), "checkIndex", { frames := 0, cells := 0, slots := 0, locals := 0 }, [])
set_option maxRecDepth 100000 in
set_option maxHeartbeats 4000000 in
theorem c_Pr_ci0 (Γ : GE) (j : Int) (m : Int) {M : HM} {n : Nat} (j0 : 0 ≤ j) (j1 : j < m) (j2 : m ≤ 40)  : CT Γ k_Pr_ci0 y_Pr_checkIndex [.int (iI (j)), .int (iI (m)), .null] M (n) (fun v M' n' => n = n' ∧ (∀ q, M' q = M q) ∧ v = some (.int (iI (j)))) := by
  refine CT.of (by decide) rfl rfl 0 rfl (Nat.le_of_ble_eq_true rfl) rfl ?_
  refine g_iload_n d_Pr_checkIndex_0 rfl ?_
  refine g_if_lt (tgt := 9) d_Pr_checkIndex_1 (by decide) (fun h1 => False.elim (by omega)) (fun h1 => ?_)
  refine g_iload_n d_Pr_checkIndex_4 rfl ?_
  refine g_iload_n d_Pr_checkIndex_5 rfl ?_
  refine g_icmp_lt (tgt := 16) d_Pr_checkIndex_6 (by decide) (fun h2 => ?_) (fun h2 => False.elim (by omega))
  refine g_iload_n d_Pr_checkIndex_16 rfl ?_
  refine g_iret d_Pr_checkIndex_17 rfl ?_ (by decide) (by decide)
  exact ⟨rfl, fun q  => rfl, rfl⟩
def k_Pr_ci1 : MS := ("jdk/internal/util/Preconditions", b_Pr_checkIndex, 3, (some .int), "checkIndex", { frames := 0, cells := 0, slots := 0, locals := 0 }, [])
set_option maxRecDepth 100000 in
set_option maxHeartbeats 4000000 in
theorem c_Pr_ci1 (Γ : GE) (j : Int) (m : Int) (q : Nat) {M : HM} {n : Nat} (j0 : 0 ≤ j) (j1 : j < m) (j2 : m ≤ 40)  : CT Γ k_Pr_ci1 y_Pr_checkIndex [.int (iI (j)), .int (iI (m)), .ref (q)] M (n) (fun v M' n' => n = n' ∧ (∀ q, M' q = M q) ∧ v = some (.int (iI (j)))) := by
  refine CT.of (by decide) rfl rfl 0 rfl (Nat.le_of_ble_eq_true rfl) rfl ?_
  refine g_iload_n d_Pr_checkIndex_0 rfl ?_
  refine g_if_lt (tgt := 9) d_Pr_checkIndex_1 (by decide) (fun h1 => False.elim (by omega)) (fun h1 => ?_)
  refine g_iload_n d_Pr_checkIndex_4 rfl ?_
  refine g_iload_n d_Pr_checkIndex_5 rfl ?_
  refine g_icmp_lt (tgt := 16) d_Pr_checkIndex_6 (by decide) (fun h2 => ?_) (fun h2 => False.elim (by omega))
  refine g_iload_n d_Pr_checkIndex_16 rfl ?_
  refine g_iret d_Pr_checkIndex_17 rfl ?_ (by decide) (by decide)
  exact ⟨rfl, fun q  => rfl, rfl⟩
def k_St_checkIndex : MS := ("java/lang/String", b_St_checkIndex, 2, none, "checkIndex", { frames := 1, cells := 0, slots := 0, locals := 22 }, [])
set_option maxRecDepth 100000 in
set_option maxHeartbeats 4000000 in
theorem c_St_checkIndex (Γ : GE) (j : Int) (m : Int) {M : HM} {n : Nat} (j0 : 0 ≤ j) (j1 : j < m) (j2 : m ≤ 40)  : CT Γ k_St_checkIndex y_St_checkIndex [.int (iI (j)), .int (iI (m))] M (n) (fun v M' n' => n = n' ∧ (∀ q, M' q = M q) ∧ v = none) := by
  refine CT.of (by decide) rfl rfl 0 rfl (Nat.le_of_ble_eq_true rfl) rfl ?_
  refine g_iload_n d_St_checkIndex_0 rfl ?_
  refine g_iload_n d_St_checkIndex_1 rfl ?_
  refine g_siob w_366 d_St_checkIndex_2 ?_ (fun q1 => ?_)
  · skip
    refine g_callS3 (ν := k_Pr_ci0) ⟨w_368, w_45, w_370, by decide, by decide, by decide +kernel⟩ w_369 (c_Pr_ci0 Γ (j) (m) (by omega) (by omega) (by omega) ) d_St_checkIndex_5 ⟨⟨by decide, by decide⟩, ⟨by decide, by decide⟩⟩ (Nat.le_of_ble_eq_true rfl) (fun v2 M2 n2 hQ2 hn2 hd2 => ?_)
    obtain ⟨rfl, hf2, rfl⟩ := hQ2
    refine g_pop d_St_checkIndex_8 rfl ?_
    refine g_vret d_St_checkIndex_9 rfl ?_ (by decide) (by decide)
    exact ⟨rfl, fun q  => ((hf2 q ).trans rfl), rfl⟩
  · skip
    refine g_callS3 (ν := k_Pr_ci1) ⟨w_368, w_45, w_370, by decide, by decide, by decide +kernel⟩ w_369 (c_Pr_ci1 Γ (j) (m) (q1) (by omega) (by omega) (by omega) ) d_St_checkIndex_5 ⟨⟨by decide, by decide⟩, ⟨by decide, by decide⟩⟩ (Nat.le_of_ble_eq_true rfl) (fun v3 M3 n3 hQ3 hn3 hd3 => ?_)
    obtain ⟨rfl, hf3, rfl⟩ := hQ3
    refine g_pop d_St_checkIndex_8 rfl ?_
    refine g_vret d_St_checkIndex_9 rfl ?_ (by decide) (by decide)
    exact ⟨rfl, fun q  => ((hf3 q ).trans rfl), rfl⟩
def k_L1_charAt : MS := ("java/lang/StringLatin1", b_L1_charAt, 2, (some .char), "charAt", { frames := 2, cells := 0, slots := 0, locals := 43 }, [])
set_option maxRecDepth 100000 in
set_option maxHeartbeats 4000000 in
theorem c_L1_charAt (Γ : GE) (li : Nat) (j : Int) {M : HM} {n : Nat} (hl : li < nLit) (j0 : 0 ≤ j) (j1 : j < (lenLit.getD li 0 : Nat)) (j2 : (lenLit.getD li 0 : Nat) ≤ 40)  : CT Γ k_L1_charAt y_L1_charAt [.ref (Γ.2.2.2.2 li), .int (iI (j))] M (n) (fun v M' n' => n = n' ∧ (∀ q, M' q = M q) ∧ ∃ (j2 : Nat), v = some (.int (iI ((j2 : Nat)))) ∧ j2 < 256) := by
  refine CT.of (by decide) rfl rfl 0 rfl (Nat.le_of_ble_eq_true rfl) rfl ?_
  refine g_iload_n d_L1_charAt_0 rfl ?_
  refine g_aload_n d_L1_charAt_1 rfl ?_
  refine g_litLen hl d_L1_charAt_2 ?_
  refine g_callS2 (ν := k_St_checkIndex) ⟨w_363, w_43, w_365, by decide, by decide, by decide +kernel⟩ w_364 (c_St_checkIndex Γ (j) ((lenLit.getD li 0 : Nat)) (by omega) (by omega) (by omega) ) d_L1_charAt_3 ⟨⟨by decide, by decide⟩, ⟨by decide, by decide⟩⟩ (Nat.le_of_ble_eq_true rfl) (fun v1 M1 n1 hQ1 hn1 hd1 => ?_)
  obtain ⟨rfl, hf1, rfl⟩ := hQ1
  refine g_aload_n d_L1_charAt_6 rfl ?_
  refine g_iload_n d_L1_charAt_7 rfl ?_
  refine g_litAt hl d_L1_charAt_8 (by omega) (by omega) (by have h9 := lenLit_le li; omega) (iI_of _).symm ?_
  refine g_sipush d_L1_charAt_9 (by decide) ?_
  obtain ⟨j2, hj2, ej2⟩ := and255 (iI (((bytLit.getD li []).getD (j : Int).toNat 0).toInt))
  refine g_iand d_L1_charAt_12 ej2 ?_
  refine g_i2c d_L1_charAt_13 (i2c_nat (by omega)) ?_
  refine g_zret (ty := .char) (by first | rfl | exact nar_char (by omega)) d_L1_charAt_14 rfl ?_ (by decide) (by decide)
  exact ⟨rfl, fun q  => ((hf1 q ).trans rfl), j2, rfl, hj2⟩
def k_St_charAt : MS := ("java/lang/String", b_St_charAt, 2, (some .char), "charAt", { frames := 3, cells := 0, slots := 0, locals := 64 }, [])
set_option maxRecDepth 100000 in
set_option maxHeartbeats 4000000 in
theorem c_St_charAt (Γ : GE) (li : Nat) (j : Int) {M : HM} {n : Nat} (hl : li < nLit) (j0 : 0 ≤ j) (j1 : j < (lenLit.getD li 0 : Nat)) (j2 : (lenLit.getD li 0 : Nat) ≤ 40)  : CT Γ k_St_charAt y_St_charAt [.ref (Γ.2.2.2.1 li), .int (iI (j))] M (n) (fun v M' n' => n = n' ∧ (∀ q, M' q = M q) ∧ ∃ (j3x0 : Nat), v = some (.int (iI ((j3x0 : Nat)))) ∧ j3x0 < 256) := by
  refine CT.of (by decide) rfl rfl 0 rfl (Nat.le_of_ble_eq_true rfl) rfl ?_
  refine g_aload_n d_St_charAt_0 rfl ?_
  refine g_callL0 (ν := k_St_isLatin1) hl ⟨w_356, w_43, w_359, by decide, by decide, by decide +kernel⟩ w_357 w_358 rfl (c_St_isLatin1 Γ (li) (by first | omega | decide | (have h9 := lenLit_le li; omega)) ) d_St_charAt_1 ⟨⟨by decide, by decide⟩, ⟨by decide, by decide⟩⟩ (Nat.le_of_ble_eq_true rfl) (fun v1 M1 n1 hQ1 hn1 hd1 => ?_)
  obtain ⟨rfl, hf1, rfl⟩ := hQ1
  refine g_if_eq (tgt := 16) d_St_charAt_4 (by decide) (fun h2 => False.elim (by omega)) (fun _ => ?_)
  refine g_aload_n d_St_charAt_7 rfl ?_
  refine g_litValue hl w_983 d_St_charAt_8 ?_
  refine g_iload_n d_St_charAt_11 rfl ?_
  refine g_callS2 (ν := k_L1_charAt) ⟨w_360, w_44, w_362, by decide, by decide, by decide +kernel⟩ w_361 (c_L1_charAt Γ (li) (j) (by first | omega | decide | (have h9 := lenLit_le li; omega)) (by first | omega | decide | (have h9 := lenLit_le li; omega)) (by first | omega | decide | (have h9 := lenLit_le li; omega)) (by first | omega | decide | (have h9 := lenLit_le li; omega)) ) d_St_charAt_12 ⟨⟨by decide, by decide⟩, ⟨by decide, by decide⟩⟩ (Nat.le_of_ble_eq_true rfl) (fun v3 M3 n3 hQ3 hn3 hd3 => ?_)
  obtain ⟨rfl, hf3, j3x0, rfl, hb3_j3x0_0⟩ := hQ3
  refine g_zret (ty := .char) (by first | rfl | exact nar_char (by omega)) d_St_charAt_15 rfl ?_ (by decide) (by decide)
  exact ⟨rfl, fun q  => ((hf3 q ).trans ((hf1 q ).trans rfl)), j3x0, rfl, hb3_j3x0_0⟩
def k_Ro_add : MS := ("VaryStore$Row", b_Ro_add, 2, none, "add", { frames := 0, cells := 0, slots := 0, locals := 0 }, [])
set_option maxRecDepth 100000 in
set_option maxHeartbeats 4000000 in
theorem c_Ro_add (Γ : GE) (a : Nat) (z : Int) (c : Int) (f : Nat → Int32) {M : HM} {n : Nat} (z0 : 0 ≤ z) (z1 : z < 300) (c0 : 0 ≤ c) (c1 : c < 65536) (p0 : M (a) = some (.inr (2, [.ref (a + 1), .int (iI (z))]))) (p1 : M (a + 1) = some (.inl (Γ.2.2.1 0, 300, .inl (f)))) : CT Γ k_Ro_add y_Ro_add [.ref (a), .int (iI (c))] M (n) (fun v M' n' => n = n' ∧ (∀ q, q ≠ a + 1 → q ≠ a → M' q = M q) ∧ v = none ∧ M' (a + 1) = some (.inl (Γ.2.2.1 0, 300, .inl (upd (f) (z : Int).toNat (iI (c))))) ∧ M' (a) = some (.inr (2, [.ref (a + 1), .int (iI ((z + 1)))]))) := by
  refine CT.of (by decide) rfl rfl 0 rfl (Nat.le_of_ble_eq_true rfl) rfl ?_
  refine g_aload_n d_Ro_add_0 rfl ?_
  refine g_get fa_Ro_15 d_Ro_add_1 p0 rfl ?_
  refine g_aload_n d_Ro_add_4 rfl ?_
  refine g_get fa_Ro_9 d_Ro_add_5 p0 rfl ?_
  refine g_alenN 0 rfl d_Ro_add_8 p1 ?_
  refine g_icmp_ge (tgt := 32) d_Ro_add_9 (by decide) (fun h1 => False.elim (by omega)) (fun h1 => ?_)
  refine g_aload_n d_Ro_add_12 rfl ?_
  refine g_get fa_Ro_9 d_Ro_add_13 p0 rfl ?_
  refine g_aload_n d_Ro_add_16 rfl ?_
  refine g_get fa_Ro_15 d_Ro_add_17 p0 rfl ?_
  refine g_iload_n d_Ro_add_20 rfl ?_
  refine g_cast d_Ro_add_21 p1 (by omega) (by omega) (by omega) (nar_charZ (by omega) (by omega)) ?_
  refine g_aload_n d_Ro_add_22 rfl ?_
  refine g_dup d_Ro_add_23 rfl ?_
  refine g_get fa_Ro_15 d_Ro_add_24 ((hu_ne (by omega)).trans p0) rfl ?_
  refine g_iconst d_Ro_add_27 ?_
  refine g_iadd d_Ro_add_28 ?_
  refine g_put fa_Ro_15 d_Ro_add_29 ((hu_ne (by omega)).trans p0) (Nat.le_of_ble_eq_true rfl) rfl rfl rfl ?_
  refine g_vret d_Ro_add_32 rfl ?_ (by decide) (by decide)
  exact ⟨rfl, fun q e0 e1 => ((hu_ne (by omega)).trans ((hu_ne (by omega)).trans rfl)), rfl, ((hu_ne (by omega)).trans (hu_same _ _ _)), (hu_same _ _ _)⟩
def Q_Ro_set (Γ : GE) (M : HM) (n a : Nat) : Option Value → HM → Nat → Prop := fun v M' n' => n = n' ∧ (∀ q, q ≠ a → q ≠ a + 1 → M' q = M q) ∧ ∃ (zs : Int) (fs : Nat → Int32), v = none ∧ 0 ≤ zs ∧ zs ≤ 40 ∧ M' (a) = some (.inr (2, [.ref (a + 1), .int (iI (zs))])) ∧ M' (a + 1) = some (.inl (Γ.2.2.1 0, 300, .inl (fs)))
def k_Ro_set : MS := ("VaryStore$Row", b_Ro_set, 3, none, "set", { frames := 4, cells := 0, slots := 0, locals := 85 }, [])
set_option maxRecDepth 100000 in
set_option maxHeartbeats 4000000 in
theorem c_Ro_set (Γ : GE) (a : Nat) (li : Nat) (z : Int) (f : Nat → Int32) {M : HM} {n : Nat} (hl : li < nLit) (p0 : M (a) = some (.inr (2, [.ref (a + 1), .int (iI (z))]))) (p1 : M (a + 1) = some (.inl (Γ.2.2.1 0, 300, .inl (f)))) : CT Γ k_Ro_set y_Ro_set [.ref (a), .ref (Γ.2.2.2.1 li)] M (n) (Q_Ro_set Γ M n a) := by
  refine CT.of (by decide) rfl rfl 1 rfl (Nat.le_of_ble_eq_true rfl) rfl ?_
  have loop : ∀ (k : Nat) (i : Int) (M1 : HM) (f1 : Nat → Int32), 0 ≤ i → i ≤ (lenLit.getD li 0 : Nat) → ((lenLit.getD li 0 : Nat) : Int) - i < k → (∀ q, q ≠ a → q ≠ a + 1 → M1 q = M q) → M1 (a) = some (.inr (2, [.ref (a + 1), .int (iI (i))])) → M1 (a + 1) = some (.inl (Γ.2.2.1 0, 300, .inl (f1))) → G Γ k_Ro_set (AA M n) (EM Γ k_Ro_set (AA M n) (Q_Ro_set Γ M n a)) 0 0 M1 n 7 [some (.ref a), some (.ref (Γ.2.2.2.1 li)), some (.int (iI i))] [] := by
    have hL := lenLit_le li
    intro k
    induction k with
    | zero => intro i M1 f1 i0 i1 i2; omega
    | succ k ih =>
      intro i M1 f1 i0 i1 i2 hfr q0 q1
      refine g_iload_n d_Ro_set_7 rfl ?_
      refine g_aload_n d_Ro_set_8 rfl ?_
      refine g_callL0 (ν := k_St_length) hl ⟨w_342, w_43, w_345, by decide, by decide, by decide +kernel⟩ w_343 w_344 rfl (c_St_length Γ (li) (by first | omega | decide | (have h9 := lenLit_le li; omega)) ) d_Ro_set_9 ⟨⟨by decide, by decide⟩, ⟨by decide, by decide⟩⟩ (Nat.le_of_ble_eq_true rfl) (fun v1 M1 n1 hQ1 hn1 hd1 => ?_)
      obtain ⟨rfl, hf1, rfl⟩ := hQ1
      refine g_icmp_ge (tgt := 30) d_Ro_set_12 (by decide) (fun h2 => ?_) (fun h2 => ?_)
      · skip
        refine g_vret d_Ro_set_30 rfl ?_ (by decide) (by decide)
        exact ⟨rfl, fun q e0 e1 => ((hf1 q ).trans (hfr q e0 e1)), _, _, rfl, by omega, by omega, ((hf1 (a) ).trans q0), ((hf1 (a + 1) ).trans q1)⟩
      · skip
        refine g_aload_n d_Ro_set_15 rfl ?_
        refine g_aload_n d_Ro_set_16 rfl ?_
        refine g_iload_n d_Ro_set_17 rfl ?_
        refine g_callL1 (ν := k_St_charAt) hl ⟨w_352, w_43, w_355, by decide, by decide, by decide +kernel⟩ w_353 w_354 rfl (c_St_charAt Γ (li) (i) (by first | omega | decide | (have h9 := lenLit_le li; omega)) (by first | omega | decide | (have h9 := lenLit_le li; omega)) (by first | omega | decide | (have h9 := lenLit_le li; omega)) (by first | omega | decide | (have h9 := lenLit_le li; omega)) ) d_Ro_set_18 ⟨⟨by decide, by decide⟩, ⟨by decide, by decide⟩⟩ (Nat.le_of_ble_eq_true rfl) (fun v3 M3 n3 hQ3 hn3 hd3 => ?_)
        obtain ⟨rfl, hf3, j3x0, rfl, hb3_j3x0_0⟩ := hQ3
        refine g_callV1 (ν := k_Ro_add) ⟨w_390, w_31, w_185, by decide, by decide, by decide +kernel⟩ w_183 w_184 (c_Ro_add Γ (a) (i) ((j3x0 : Nat)) (f1) (by omega) (by omega) (by omega) (by omega) ((hf3 (a) ).trans ((hf1 (a) ).trans q0)) ((hf3 (a + 1) ).trans ((hf1 (a + 1) ).trans q1))) d_Ro_set_21 ((hf3 (a) ).trans ((hf1 (a) ).trans q0)) rfl rfl ⟨⟨by decide, by decide⟩, ⟨by decide, by decide⟩⟩ (Nat.le_of_ble_eq_true rfl) (fun v4 M4 n4 hQ4 hn4 hd4 => ?_)
        obtain ⟨rfl, hf4, rfl, hw4_0, hw4_1⟩ := hQ4
        refine g_iinc d_Ro_set_24 rfl (by decide) rfl ?_
        refine g_goto (tgt := 7) d_Ro_set_27 (by decide) ?_
        exact ih _ _ _ (by omega) (by omega) (by omega) (fun q e0 e1 => ((hf4 q (by omega) (by omega)).trans ((hf3 q ).trans ((hf1 q ).trans (hfr q e0 e1))))) hw4_1 hw4_0
  refine g_aload_n d_Ro_set_0 rfl ?_
  refine g_iconst d_Ro_set_1 ?_
  refine g_put fa_Ro_15 d_Ro_set_2 p0 (Nat.le_of_ble_eq_true rfl) rfl rfl rfl ?_
  refine g_iconst d_Ro_set_5 ?_
  refine g_istore_n d_Ro_set_6 (by decide) rfl ?_
  exact loop 100 0 _ _ (by omega) (by omega) (by have h9 := lenLit_le li; omega) (fun q e0 e1 => ((hu_ne (by omega)).trans rfl)) (hu_same _ _ _) ((hu_ne (by omega)).trans p1)
end
section
theorem d_Ro_skipBlanks_0 : decode b_Ro_skipBlanks 0 = .ok (.iload_n 1, 1) := by decide +kernel
theorem d_Ro_skipBlanks_1 : decode b_Ro_skipBlanks 1 = .ok (.istore_n 3, 1) := by decide +kernel
theorem d_Ro_skipBlanks_2 : decode b_Ro_skipBlanks 2 = .ok (.iload_n 3, 1) := by decide +kernel
theorem d_Ro_skipBlanks_3 : decode b_Ro_skipBlanks 3 = .ok (.iload_n 2, 1) := by decide +kernel
theorem d_Ro_skipBlanks_4 : decode b_Ro_skipBlanks 4 = .ok (.if_icmp .ge 19, 3) := by decide +kernel
theorem d_Ro_skipBlanks_23 : decode b_Ro_skipBlanks 23 = .ok (.iload_n 3, 1) := by decide +kernel
theorem d_Ro_skipBlanks_24 : decode b_Ro_skipBlanks 24 = .ok (.ireturn, 1) := by decide +kernel
theorem d_Ro_skipBlanksBack_0 : decode b_Ro_skipBlanksBack 0 = .ok (.iload_n 2, 1) := by decide +kernel
theorem d_Ro_skipBlanksBack_1 : decode b_Ro_skipBlanksBack 1 = .ok (.istore_n 3, 1) := by decide +kernel
theorem d_Ro_skipBlanksBack_2 : decode b_Ro_skipBlanksBack 2 = .ok (.iload_n 3, 1) := by decide +kernel
theorem d_Ro_skipBlanksBack_3 : decode b_Ro_skipBlanksBack 3 = .ok (.iload_n 1, 1) := by decide +kernel
theorem d_Ro_skipBlanksBack_4 : decode b_Ro_skipBlanksBack 4 = .ok (.if_icmp .le 21, 3) := by decide +kernel
theorem d_Ro_skipBlanksBack_25 : decode b_Ro_skipBlanksBack 25 = .ok (.iload_n 3, 1) := by decide +kernel
theorem d_Ro_skipBlanksBack_26 : decode b_Ro_skipBlanksBack 26 = .ok (.ireturn, 1) := by decide +kernel
theorem d_Te_gather_0 : decode b_Te_gather 0 = .ok (.iconst 0, 1) := by decide +kernel
theorem d_Te_gather_1 : decode b_Te_gather 1 = .ok (.istore_n 3, 1) := by decide +kernel
theorem d_Te_gather_2 : decode b_Te_gather 2 = .ok (.aload_n 2, 1) := by decide +kernel
theorem d_Te_gather_3 : decode b_Te_gather 3 = .ok (.invokevirtual 61, 3) := by decide +kernel
theorem d_Te_gather_6 : decode b_Te_gather 6 = .ok (.iconst 0, 1) := by decide +kernel
theorem d_Te_gather_7 : decode b_Te_gather 7 = .ok (.istore 4, 2) := by decide +kernel
theorem d_Te_gather_9 : decode b_Te_gather 9 = .ok (.iload 4, 2) := by decide +kernel
theorem d_Te_gather_11 : decode b_Te_gather 11 = .ok (.aload_n 0, 1) := by decide +kernel
theorem d_Te_gather_12 : decode b_Te_gather 12 = .ok (.getfield 28, 3) := by decide +kernel
theorem d_Te_gather_15 : decode b_Te_gather 15 = .ok (.if_icmp .ge 112, 3) := by decide +kernel
theorem d_Te_gather_127 : decode b_Te_gather 127 = .ok (.iload_n 3, 1) := by decide +kernel
theorem d_Te_gather_128 : decode b_Te_gather 128 = .ok (.ireturn, 1) := by decide +kernel
theorem d_It_addItem_0 : decode b_It_addItem 0 = .ok (.aload_n 1, 1) := by decide +kernel
theorem d_It_addItem_1 : decode b_It_addItem 1 = .ok (.iload_n 2, 1) := by decide +kernel
theorem d_It_addItem_2 : decode b_It_addItem 2 = .ok (.iload_n 3, 1) := by decide +kernel
theorem d_It_addItem_3 : decode b_It_addItem 3 = .ok (.invokevirtual 40, 3) := by decide +kernel
theorem d_It_addItem_6 : decode b_It_addItem 6 = .ok (.istore 4, 2) := by decide +kernel
theorem d_It_addItem_8 : decode b_It_addItem 8 = .ok (.aload_n 1, 1) := by decide +kernel
theorem d_It_addItem_9 : decode b_It_addItem 9 = .ok (.iload 4, 2) := by decide +kernel
theorem d_It_addItem_11 : decode b_It_addItem 11 = .ok (.iload_n 3, 1) := by decide +kernel
theorem d_It_addItem_12 : decode b_It_addItem 12 = .ok (.invokevirtual 44, 3) := by decide +kernel
theorem d_It_addItem_15 : decode b_It_addItem 15 = .ok (.istore 5, 2) := by decide +kernel
theorem d_It_addItem_17 : decode b_It_addItem 17 = .ok (.iload 4, 2) := by decide +kernel
theorem d_It_addItem_19 : decode b_It_addItem 19 = .ok (.iload 5, 2) := by decide +kernel
theorem d_It_addItem_21 : decode b_It_addItem 21 = .ok (.if_icmp .ge 15, 3) := by decide +kernel
theorem d_It_addItem_36 : decode b_It_addItem 36 = .ok (.return_, 1) := by decide +kernel
theorem d_It_cut_0 : decode b_It_cut 0 = .ok (.aload_n 0, 1) := by decide +kernel
theorem d_It_cut_1 : decode b_It_cut 1 = .ok (.getfield 12, 3) := by decide +kernel
theorem d_It_cut_4 : decode b_It_cut 4 = .ok (.invokevirtual 26, 3) := by decide +kernel
theorem d_It_cut_7 : decode b_It_cut 7 = .ok (.aload_n 0, 1) := by decide +kernel
theorem d_It_cut_8 : decode b_It_cut 8 = .ok (.iconst 0, 1) := by decide +kernel
theorem d_It_cut_9 : decode b_It_cut 9 = .ok (.putfield 22, 3) := by decide +kernel
theorem d_It_cut_12 : decode b_It_cut 12 = .ok (.iconst 0, 1) := by decide +kernel
theorem d_It_cut_13 : decode b_It_cut 13 = .ok (.istore_n 2, 1) := by decide +kernel
theorem d_It_cut_14 : decode b_It_cut 14 = .ok (.iconst 0, 1) := by decide +kernel
theorem d_It_cut_15 : decode b_It_cut 15 = .ok (.istore_n 3, 1) := by decide +kernel
theorem d_It_cut_16 : decode b_It_cut 16 = .ok (.iload_n 3, 1) := by decide +kernel
theorem d_It_cut_17 : decode b_It_cut 17 = .ok (.aload_n 1, 1) := by decide +kernel
theorem d_It_cut_18 : decode b_It_cut 18 = .ok (.getfield 29, 3) := by decide +kernel
theorem d_It_cut_21 : decode b_It_cut 21 = .ok (.if_icmp .gt 38, 3) := by decide +kernel
theorem d_It_cut_24 : decode b_It_cut 24 = .ok (.iload_n 3, 1) := by decide +kernel
theorem d_It_cut_25 : decode b_It_cut 25 = .ok (.aload_n 1, 1) := by decide +kernel
theorem d_It_cut_26 : decode b_It_cut 26 = .ok (.getfield 29, 3) := by decide +kernel
theorem d_It_cut_29 : decode b_It_cut 29 = .ok (.if_icmp .eq 13, 3) := by decide +kernel
theorem d_It_cut_42 : decode b_It_cut 42 = .ok (.aload_n 0, 1) := by decide +kernel
theorem d_It_cut_43 : decode b_It_cut 43 = .ok (.aload_n 1, 1) := by decide +kernel
theorem d_It_cut_44 : decode b_It_cut 44 = .ok (.iload_n 2, 1) := by decide +kernel
theorem d_It_cut_45 : decode b_It_cut 45 = .ok (.iload_n 3, 1) := by decide +kernel
theorem d_It_cut_46 : decode b_It_cut 46 = .ok (.invokevirtual 36, 3) := by decide +kernel
theorem d_It_cut_49 : decode b_It_cut 49 = .ok (.iload_n 3, 1) := by decide +kernel
theorem d_It_cut_50 : decode b_It_cut 50 = .ok (.iconst 1, 1) := by decide +kernel
theorem d_It_cut_51 : decode b_It_cut 51 = .ok (.iadd, 1) := by decide +kernel
theorem d_It_cut_52 : decode b_It_cut 52 = .ok (.istore_n 2, 1) := by decide +kernel
theorem d_It_cut_53 : decode b_It_cut 53 = .ok (.iinc 3 1, 3) := by decide +kernel
theorem d_It_cut_56 : decode b_It_cut 56 = .ok (.goto (-40), 3) := by decide +kernel
theorem d_It_cut_59 : decode b_It_cut 59 = .ok (.return_, 1) := by decide +kernel
theorem d_It_said_0 : decode b_It_said 0 = .ok (.bipush (-2), 2) := by decide +kernel
theorem d_It_said_2 : decode b_It_said 2 = .ok (.istore_n 2, 1) := by decide +kernel
theorem d_It_said_3 : decode b_It_said 3 = .ok (.iconst 0, 1) := by decide +kernel
theorem d_It_said_4 : decode b_It_said 4 = .ok (.istore_n 3, 1) := by decide +kernel
theorem d_It_said_5 : decode b_It_said 5 = .ok (.iload_n 3, 1) := by decide +kernel
theorem d_It_said_6 : decode b_It_said 6 = .ok (.aload_n 0, 1) := by decide +kernel
theorem d_It_said_7 : decode b_It_said 7 = .ok (.getfield 22, 3) := by decide +kernel
theorem d_It_said_10 : decode b_It_said 10 = .ok (.if_icmp .ge 36, 3) := by decide +kernel
theorem d_It_said_46 : decode b_It_said 46 = .ok (.iload_n 2, 1) := by decide +kernel
theorem d_It_said_47 : decode b_It_said 47 = .ok (.ireturn, 1) := by decide +kernel
theorem d_It_has_0 : decode b_It_has 0 = .ok (.aload_n 0, 1) := by decide +kernel
theorem d_It_has_1 : decode b_It_has 1 = .ok (.aload_n 1, 1) := by decide +kernel
theorem d_It_has_2 : decode b_It_has 2 = .ok (.invokevirtual 78, 3) := by decide +kernel
theorem d_It_has_5 : decode b_It_has 5 = .ok (.bipush (-2), 2) := by decide +kernel
theorem d_It_has_7 : decode b_It_has 7 = .ok (.if_icmp .eq 7, 3) := by decide +kernel
theorem d_It_has_14 : decode b_It_has 14 = .ok (.iconst 0, 1) := by decide +kernel
theorem d_It_has_15 : decode b_It_has 15 = .ok (.ireturn, 1) := by decide +kernel
theorem d_It_holds_0 : decode b_It_holds 0 = .ok (.iconst 0, 1) := by decide +kernel
theorem d_It_holds_1 : decode b_It_holds 1 = .ok (.istore_n 2, 1) := by decide +kernel
theorem d_It_holds_2 : decode b_It_holds 2 = .ok (.iload_n 2, 1) := by decide +kernel
theorem d_It_holds_3 : decode b_It_holds 3 = .ok (.aload_n 0, 1) := by decide +kernel
theorem d_It_holds_4 : decode b_It_holds 4 = .ok (.getfield 22, 3) := by decide +kernel
theorem d_It_holds_7 : decode b_It_holds 7 = .ok (.if_icmp .ge 40, 3) := by decide +kernel
theorem d_It_holds_47 : decode b_It_holds 47 = .ok (.iconst 0, 1) := by decide +kernel
theorem d_It_holds_48 : decode b_It_holds 48 = .ok (.ireturn, 1) := by decide +kernel
theorem d_Ro_number_0 : decode b_Ro_number 0 = .ok (.iload_n 2, 1) := by decide +kernel
theorem d_Ro_number_1 : decode b_Ro_number 1 = .ok (.iload_n 1, 1) := by decide +kernel
theorem d_Ro_number_2 : decode b_Ro_number 2 = .ok (.isub, 1) := by decide +kernel
theorem d_Ro_number_3 : decode b_Ro_number 3 = .ok (.iconst 1, 1) := by decide +kernel
theorem d_Ro_number_4 : decode b_Ro_number 4 = .ok (.if_icmp .lt 11, 3) := by decide +kernel
theorem d_Ro_number_15 : decode b_Ro_number 15 = .ok (.iconst (-1), 1) := by decide +kernel
theorem d_Ro_number_16 : decode b_Ro_number 16 = .ok (.ireturn, 1) := by decide +kernel
theorem d_VS_gather_0 : decode b_VS_gather 0 = .ok (.aload_n 0, 1) := by decide +kernel
theorem d_VS_gather_1 : decode b_VS_gather 1 = .ok (.getfield 40, 3) := by decide +kernel
theorem d_VS_gather_4 : decode b_VS_gather 4 = .ok (.aload_n 2, 1) := by decide +kernel
theorem d_VS_gather_5 : decode b_VS_gather 5 = .ok (.invokevirtual 212, 3) := by decide +kernel
theorem d_VS_gather_8 : decode b_VS_gather 8 = .ok (.aload_n 1, 1) := by decide +kernel
theorem d_VS_gather_9 : decode b_VS_gather 9 = .ok (.aload_n 0, 1) := by decide +kernel
theorem d_VS_gather_10 : decode b_VS_gather 10 = .ok (.getfield 40, 3) := by decide +kernel
theorem d_VS_gather_13 : decode b_VS_gather 13 = .ok (.aload_n 0, 1) := by decide +kernel
theorem d_VS_gather_14 : decode b_VS_gather 14 = .ok (.getfield 43, 3) := by decide +kernel
theorem d_VS_gather_17 : decode b_VS_gather 17 = .ok (.invokevirtual 215, 3) := by decide +kernel
theorem d_VS_gather_20 : decode b_VS_gather 20 = .ok (.ireturn, 1) := by decide +kernel
theorem d_VS_cutList_0 : decode b_VS_cutList 0 = .ok (.aload_n 0, 1) := by decide +kernel
theorem d_VS_cutList_1 : decode b_VS_cutList 1 = .ok (.aload_n 1, 1) := by decide +kernel
theorem d_VS_cutList_2 : decode b_VS_cutList 2 = .ok (.aload_n 2, 1) := by decide +kernel
theorem d_VS_cutList_3 : decode b_VS_cutList 3 = .ok (.invokevirtual 145, 3) := by decide +kernel
theorem d_VS_cutList_6 : decode b_VS_cutList 6 = .ok (.istore 4, 2) := by decide +kernel
theorem d_VS_cutList_8 : decode b_VS_cutList 8 = .ok (.aload_n 3, 1) := by decide +kernel
theorem d_VS_cutList_9 : decode b_VS_cutList 9 = .ok (.aload_n 0, 1) := by decide +kernel
theorem d_VS_cutList_10 : decode b_VS_cutList 10 = .ok (.getfield 43, 3) := by decide +kernel
theorem d_VS_cutList_13 : decode b_VS_cutList 13 = .ok (.invokevirtual 218, 3) := by decide +kernel
theorem d_VS_cutList_16 : decode b_VS_cutList 16 = .ok (.iload 4, 2) := by decide +kernel
theorem d_VS_cutList_18 : decode b_VS_cutList 18 = .ok (.ireturn, 1) := by decide +kernel
theorem d_VS_numberOf_0 : decode b_VS_numberOf 0 = .ok (.aload_n 0, 1) := by decide +kernel
theorem d_VS_numberOf_1 : decode b_VS_numberOf 1 = .ok (.aload_n 0, 1) := by decide +kernel
theorem d_VS_numberOf_2 : decode b_VS_numberOf 2 = .ok (.getfield 30, 3) := by decide +kernel
theorem d_VS_numberOf_5 : decode b_VS_numberOf 5 = .ok (.aload_n 1, 1) := by decide +kernel
theorem d_VS_numberOf_6 : decode b_VS_numberOf 6 = .ok (.invokevirtual 145, 3) := by decide +kernel
theorem d_VS_numberOf_9 : decode b_VS_numberOf 9 = .ok (.pop, 1) := by decide +kernel
theorem d_VS_numberOf_10 : decode b_VS_numberOf 10 = .ok (.aload_n 0, 1) := by decide +kernel
theorem d_VS_numberOf_11 : decode b_VS_numberOf 11 = .ok (.getfield 43, 3) := by decide +kernel
theorem d_VS_numberOf_14 : decode b_VS_numberOf 14 = .ok (.iconst 0, 1) := by decide +kernel
theorem d_VS_numberOf_15 : decode b_VS_numberOf 15 = .ok (.aload_n 0, 1) := by decide +kernel
theorem d_VS_numberOf_16 : decode b_VS_numberOf 16 = .ok (.getfield 43, 3) := by decide +kernel
theorem d_VS_numberOf_19 : decode b_VS_numberOf 19 = .ok (.getfield 59, 3) := by decide +kernel
theorem d_VS_numberOf_22 : decode b_VS_numberOf 22 = .ok (.invokevirtual 222, 3) := by decide +kernel
theorem d_VS_numberOf_25 : decode b_VS_numberOf 25 = .ok (.ireturn, 1) := by decide +kernel
theorem d_Sh_at_0 : decode b_Sh_at 0 = .ok (.iload_n 1, 1) := by decide +kernel
theorem d_Sh_at_1 : decode b_Sh_at 1 = .ok (.ifCond .lt 20, 3) := by decide +kernel
theorem d_Sh_at_21 : decode b_Sh_at 21 = .ok (.aconst_null, 1) := by decide +kernel
theorem d_Sh_at_22 : decode b_Sh_at 22 = .ok (.areturn, 1) := by decide +kernel
theorem d_Sh_at_4 : decode b_Sh_at 4 = .ok (.iload_n 1, 1) := by decide +kernel
theorem d_Sh_at_5 : decode b_Sh_at 5 = .ok (.aload_n 0, 1) := by decide +kernel
theorem d_Sh_at_6 : decode b_Sh_at 6 = .ok (.getfield 17, 3) := by decide +kernel
theorem d_Sh_at_9 : decode b_Sh_at 9 = .ok (.if_icmp .ge 12, 3) := by decide +kernel
theorem d_VS_placeOfTheOne_0 : decode b_VS_placeOfTheOne 0 = .ok (.aload_n 0, 1) := by decide +kernel
theorem d_VS_placeOfTheOne_1 : decode b_VS_placeOfTheOne 1 = .ok (.getfield 19, 3) := by decide +kernel
theorem d_VS_placeOfTheOne_4 : decode b_VS_placeOfTheOne 4 = .ok (.getfield 133, 3) := by decide +kernel
theorem d_VS_placeOfTheOne_7 : decode b_VS_placeOfTheOne 7 = .ok (.iconst 1, 1) := by decide +kernel
theorem d_VS_placeOfTheOne_8 : decode b_VS_placeOfTheOne 8 = .ok (.isub, 1) := by decide +kernel
theorem d_VS_placeOfTheOne_9 : decode b_VS_placeOfTheOne 9 = .ok (.istore_n 2, 1) := by decide +kernel
theorem d_VS_placeOfTheOne_10 : decode b_VS_placeOfTheOne 10 = .ok (.iload_n 2, 1) := by decide +kernel
theorem d_VS_placeOfTheOne_11 : decode b_VS_placeOfTheOne 11 = .ok (.ifCond .lt 40, 3) := by decide +kernel
theorem d_VS_placeOfTheOne_51 : decode b_VS_placeOfTheOne 51 = .ok (.iconst (-1), 1) := by decide +kernel
theorem d_VS_placeOfTheOne_52 : decode b_VS_placeOfTheOne 52 = .ok (.ireturn, 1) := by decide +kernel
theorem d_VS_placeOfSame_0 : decode b_VS_placeOfSame 0 = .ok (.iconst 0, 1) := by decide +kernel
theorem d_VS_placeOfSame_1 : decode b_VS_placeOfSame 1 = .ok (.istore_n 2, 1) := by decide +kernel
theorem d_VS_placeOfSame_2 : decode b_VS_placeOfSame 2 = .ok (.iload_n 2, 1) := by decide +kernel
theorem d_VS_placeOfSame_3 : decode b_VS_placeOfSame 3 = .ok (.aload_n 0, 1) := by decide +kernel
theorem d_VS_placeOfSame_4 : decode b_VS_placeOfSame 4 = .ok (.getfield 19, 3) := by decide +kernel
theorem d_VS_placeOfSame_7 : decode b_VS_placeOfSame 7 = .ok (.getfield 133, 3) := by decide +kernel
theorem d_VS_placeOfSame_10 : decode b_VS_placeOfSame 10 = .ok (.if_icmp .ge 57, 3) := by decide +kernel
theorem d_VS_placeOfSame_67 : decode b_VS_placeOfSame 67 = .ok (.iconst (-1), 1) := by decide +kernel
theorem d_VS_placeOfSame_68 : decode b_VS_placeOfSame 68 = .ok (.ireturn, 1) := by decide +kernel
theorem d_VS_things_0 : decode b_VS_things 0 = .ok (.aload_n 0, 1) := by decide +kernel
theorem d_VS_things_1 : decode b_VS_things 1 = .ok (.getfield 19, 3) := by decide +kernel
theorem d_VS_things_4 : decode b_VS_things 4 = .ok (.getfield 133, 3) := by decide +kernel
theorem d_VS_things_7 : decode b_VS_things 7 = .ok (.ireturn, 1) := by decide +kernel
theorem d_VS_fault_0 : decode b_VS_fault 0 = .ok (.aload_n 0, 1) := by decide +kernel
theorem d_VS_fault_1 : decode b_VS_fault 1 = .ok (.getfield 33, 3) := by decide +kernel
theorem d_VS_fault_4 : decode b_VS_fault 4 = .ok (.ireturn, 1) := by decide +kernel
theorem d_VS_purge_0 : decode b_VS_purge 0 = .ok (.iconst 0, 1) := by decide +kernel
theorem d_VS_purge_1 : decode b_VS_purge 1 = .ok (.istore_n 2, 1) := by decide +kernel
theorem d_VS_purge_2 : decode b_VS_purge 2 = .ok (.aload_n 0, 1) := by decide +kernel
theorem d_VS_purge_3 : decode b_VS_purge 3 = .ok (.getfield 19, 3) := by decide +kernel
theorem d_VS_purge_6 : decode b_VS_purge 6 = .ok (.getfield 133, 3) := by decide +kernel
theorem d_VS_purge_9 : decode b_VS_purge 9 = .ok (.iconst 1, 1) := by decide +kernel
theorem d_VS_purge_10 : decode b_VS_purge 10 = .ok (.isub, 1) := by decide +kernel
theorem d_VS_purge_11 : decode b_VS_purge 11 = .ok (.istore_n 3, 1) := by decide +kernel
theorem d_VS_purge_12 : decode b_VS_purge 12 = .ok (.iload_n 3, 1) := by decide +kernel
theorem d_VS_purge_13 : decode b_VS_purge 13 = .ok (.ifCond .lt 44, 3) := by decide +kernel
theorem d_VS_purge_57 : decode b_VS_purge 57 = .ok (.iload_n 2, 1) := by decide +kernel
theorem d_VS_purge_58 : decode b_VS_purge 58 = .ok (.ireturn, 1) := by decide +kernel
theorem d_Sh_drop_0 : decode b_Sh_drop 0 = .ok (.iload_n 1, 1) := by decide +kernel
theorem d_Sh_drop_1 : decode b_Sh_drop 1 = .ok (.ifCond .lt 26, 3) := by decide +kernel
theorem d_Sh_drop_27 : decode b_Sh_drop 27 = .ok (.return_, 1) := by decide +kernel
theorem d_Te_read_0 : decode b_Te_read 0 = .ok (.aload_n 0, 1) := by decide +kernel
theorem d_Te_read_1 : decode b_Te_read 1 = .ok (.getfield 12, 3) := by decide +kernel
theorem d_Te_read_4 : decode b_Te_read 4 = .ok (.aload_n 1, 1) := by decide +kernel
theorem d_Te_read_5 : decode b_Te_read 5 = .ok (.invokevirtual 32, 3) := by decide +kernel
theorem d_Te_read_8 : decode b_Te_read 8 = .ok (.aload_n 0, 1) := by decide +kernel
theorem d_Te_read_9 : decode b_Te_read 9 = .ok (.iconst 0, 1) := by decide +kernel
theorem d_Te_read_10 : decode b_Te_read 10 = .ok (.putfield 28, 3) := by decide +kernel
theorem d_Te_read_13 : decode b_Te_read 13 = .ok (.iconst 0, 1) := by decide +kernel
theorem d_Te_read_14 : decode b_Te_read 14 = .ok (.istore_n 2, 1) := by decide +kernel
theorem d_Te_read_15 : decode b_Te_read 15 = .ok (.iconst 0, 1) := by decide +kernel
theorem d_Te_read_16 : decode b_Te_read 16 = .ok (.istore_n 3, 1) := by decide +kernel
theorem d_Te_read_17 : decode b_Te_read 17 = .ok (.iload_n 3, 1) := by decide +kernel
theorem d_Te_read_18 : decode b_Te_read 18 = .ok (.aload_n 0, 1) := by decide +kernel
theorem d_Te_read_19 : decode b_Te_read 19 = .ok (.getfield 12, 3) := by decide +kernel
theorem d_Te_read_22 : decode b_Te_read 22 = .ok (.getfield 42, 3) := by decide +kernel
theorem d_Te_read_25 : decode b_Te_read 25 = .ok (.if_icmp .ge 37, 3) := by decide +kernel
theorem d_Te_read_62 : decode b_Te_read 62 = .ok (.iload_n 2, 1) := by decide +kernel
theorem d_Te_read_63 : decode b_Te_read 63 = .ok (.aload_n 0, 1) := by decide +kernel
theorem d_Te_read_64 : decode b_Te_read 64 = .ok (.getfield 12, 3) := by decide +kernel
theorem d_Te_read_67 : decode b_Te_read 67 = .ok (.getfield 42, 3) := by decide +kernel
theorem d_Te_read_70 : decode b_Te_read 70 = .ok (.if_icmp .ge 7, 3) := by decide +kernel
theorem d_Te_read_77 : decode b_Te_read 77 = .ok (.iconst (-1), 1) := by decide +kernel
theorem d_Te_read_78 : decode b_Te_read 78 = .ok (.ireturn, 1) := by decide +kernel
set_option maxRecDepth 20000 in
theorem w_260 : Cond.code ⟨"VaryStore$Row", "clear", "()V"⟩ prog_3_method_2_code 1 none ∈ TB := tb_in 260 (by decide +kernel) (by decide +kernel)
set_option maxRecDepth 20000 in
theorem w_395 : Cond.methodLink "VaryStore$Text" 61 ⟨"VaryStore$Row", "clear", "()V"⟩ ∈ TB := tb_in 395 (by decide +kernel) (by decide +kernel)
set_option maxRecDepth 20000 in
theorem w_258 : Cond.instanceMethod ⟨"VaryStore$Row", "clear", "()V"⟩ ∈ TB := tb_in 258 (by decide +kernel) (by decide +kernel)
set_option maxRecDepth 20000 in
theorem w_259 : Cond.selects "VaryStore$Row" ⟨"VaryStore$Row", "clear", "()V"⟩ ⟨"VaryStore$Row", "clear", "()V"⟩ ∈ TB := tb_in 259 (by decide +kernel) (by decide +kernel)
set_option maxRecDepth 20000 in
theorem w_405 : Cond.code ⟨"VaryStore$Row", "skipBlanks", "(II)I"⟩ prog_3_method_11_code 4 (some .int) ∈ TB := tb_in 405 (by decide +kernel) (by decide +kernel)
set_option maxRecDepth 20000 in
theorem w_424 : Cond.methodLink "VaryStore$Items" 40 ⟨"VaryStore$Row", "skipBlanks", "(II)I"⟩ ∈ TB := tb_in 424 (by decide +kernel) (by decide +kernel)
set_option maxRecDepth 20000 in
theorem w_403 : Cond.instanceMethod ⟨"VaryStore$Row", "skipBlanks", "(II)I"⟩ ∈ TB := tb_in 403 (by decide +kernel) (by decide +kernel)
set_option maxRecDepth 20000 in
theorem w_404 : Cond.selects "VaryStore$Row" ⟨"VaryStore$Row", "skipBlanks", "(II)I"⟩ ⟨"VaryStore$Row", "skipBlanks", "(II)I"⟩ ∈ TB := tb_in 404 (by decide +kernel) (by decide +kernel)
set_option maxRecDepth 20000 in
theorem w_409 : Cond.code ⟨"VaryStore$Row", "skipBlanksBack", "(II)I"⟩ prog_3_method_12_code 4 (some .int) ∈ TB := tb_in 409 (by decide +kernel) (by decide +kernel)
set_option maxRecDepth 20000 in
theorem w_425 : Cond.methodLink "VaryStore$Items" 44 ⟨"VaryStore$Row", "skipBlanksBack", "(II)I"⟩ ∈ TB := tb_in 425 (by decide +kernel) (by decide +kernel)
set_option maxRecDepth 20000 in
theorem w_407 : Cond.instanceMethod ⟨"VaryStore$Row", "skipBlanksBack", "(II)I"⟩ ∈ TB := tb_in 407 (by decide +kernel) (by decide +kernel)
set_option maxRecDepth 20000 in
theorem w_408 : Cond.selects "VaryStore$Row" ⟨"VaryStore$Row", "skipBlanksBack", "(II)I"⟩ ⟨"VaryStore$Row", "skipBlanksBack", "(II)I"⟩ ∈ TB := tb_in 408 (by decide +kernel) (by decide +kernel)
set_option maxRecDepth 20000 in
theorem w_418 : Cond.methodLink "VaryStore$Items" 26 ⟨"VaryStore$Row", "clear", "()V"⟩ ∈ TB := tb_in 418 (by decide +kernel) (by decide +kernel)
set_option maxRecDepth 20000 in
theorem w_67 : Cond.fieldLinkNest "VaryStore$Items" 29 "VaryStore$Row" "length" "I" "VaryStore"  ∈ NB := nb_in 67 (by decide +kernel) (by decide +kernel)
set_option maxRecDepth 20000 in
theorem w_423 : Cond.code ⟨"VaryStore$Items", "addItem", "(LVaryStore$Row;II)V"⟩ prog_2_method_3_code 6 none ∈ TB := tb_in 423 (by decide +kernel) (by decide +kernel)
set_option maxRecDepth 20000 in
theorem w_420 : Cond.methodLink "VaryStore$Items" 36 ⟨"VaryStore$Items", "addItem", "(LVaryStore$Row;II)V"⟩ ∈ TB := tb_in 420 (by decide +kernel) (by decide +kernel)
set_option maxRecDepth 20000 in
theorem w_422 : Cond.instanceMethod ⟨"VaryStore$Items", "addItem", "(LVaryStore$Row;II)V"⟩ ∈ TB := tb_in 422 (by decide +kernel) (by decide +kernel)
set_option maxRecDepth 20000 in
theorem w_6 : Cond.selects "VaryStore$Items" ⟨"VaryStore$Items", "addItem", "(LVaryStore$Row;II)V"⟩ ⟨"VaryStore$Items", "addItem", "(LVaryStore$Row;II)V"⟩ ∈ TB := tb_in 6 (by decide +kernel) (by decide +kernel)
set_option maxRecDepth 20000 in
theorem w_469 : Cond.code ⟨"VaryStore$Items", "said", "(Ljava/lang/String;)I"⟩ prog_2_method_11_code 5 (some .int) ∈ TB := tb_in 469 (by decide +kernel) (by decide +kernel)
set_option maxRecDepth 20000 in
theorem w_490 : Cond.methodLink "VaryStore$Items" 78 ⟨"VaryStore$Items", "said", "(Ljava/lang/String;)I"⟩ ∈ TB := tb_in 490 (by decide +kernel) (by decide +kernel)
set_option maxRecDepth 20000 in
theorem w_467 : Cond.instanceMethod ⟨"VaryStore$Items", "said", "(Ljava/lang/String;)I"⟩ ∈ TB := tb_in 467 (by decide +kernel) (by decide +kernel)
set_option maxRecDepth 20000 in
theorem w_468 : Cond.selects "VaryStore$Items" ⟨"VaryStore$Items", "said", "(Ljava/lang/String;)I"⟩ ⟨"VaryStore$Items", "said", "(Ljava/lang/String;)I"⟩ ∈ TB := tb_in 468 (by decide +kernel) (by decide +kernel)
set_option maxRecDepth 20000 in
theorem w_341 : Cond.code ⟨"VaryStore$Row", "set", "(Ljava/lang/String;)V"⟩ prog_3_method_5_code 3 none ∈ TB := tb_in 341 (by decide +kernel) (by decide +kernel)
set_option maxRecDepth 20000 in
theorem w_338 : Cond.methodLink "VaryStore" 212 ⟨"VaryStore$Row", "set", "(Ljava/lang/String;)V"⟩ ∈ TB := tb_in 338 (by decide +kernel) (by decide +kernel)
set_option maxRecDepth 20000 in
theorem w_339 : Cond.instanceMethod ⟨"VaryStore$Row", "set", "(Ljava/lang/String;)V"⟩ ∈ TB := tb_in 339 (by decide +kernel) (by decide +kernel)
set_option maxRecDepth 20000 in
theorem w_340 : Cond.selects "VaryStore$Row" ⟨"VaryStore$Row", "set", "(Ljava/lang/String;)V"⟩ ⟨"VaryStore$Row", "set", "(Ljava/lang/String;)V"⟩ ∈ TB := tb_in 340 (by decide +kernel) (by decide +kernel)
set_option maxRecDepth 20000 in
theorem w_394 : Cond.code ⟨"VaryStore$Text", "gather", "(LVaryStore$Row;LVaryStore$Row;)Z"⟩ prog_5_method_5_code 6 (some .boolean) ∈ TB := tb_in 394 (by decide +kernel) (by decide +kernel)
set_option maxRecDepth 20000 in
theorem w_391 : Cond.methodLink "VaryStore" 215 ⟨"VaryStore$Text", "gather", "(LVaryStore$Row;LVaryStore$Row;)Z"⟩ ∈ TB := tb_in 391 (by decide +kernel) (by decide +kernel)
set_option maxRecDepth 20000 in
theorem w_392 : Cond.instanceMethod ⟨"VaryStore$Text", "gather", "(LVaryStore$Row;LVaryStore$Row;)Z"⟩ ∈ TB := tb_in 392 (by decide +kernel) (by decide +kernel)
set_option maxRecDepth 20000 in
theorem w_393 : Cond.selects "VaryStore$Text" ⟨"VaryStore$Text", "gather", "(LVaryStore$Row;LVaryStore$Row;)Z"⟩ ⟨"VaryStore$Text", "gather", "(LVaryStore$Row;LVaryStore$Row;)Z"⟩ ∈ TB := tb_in 393 (by decide +kernel) (by decide +kernel)
set_option maxRecDepth 20000 in
theorem w_30 : Cond.initialized "VaryStore" ∈ TB := tb_in 30 (by decide +kernel) (by decide +kernel)
set_option maxRecDepth 20000 in
theorem w_337 : Cond.code ⟨"VaryStore", "gather", "(LVaryStore$Text;Ljava/lang/String;)Z"⟩ prog_1_method_15_code 3 (some .boolean) ∈ TB := tb_in 337 (by decide +kernel) (by decide +kernel)
set_option maxRecDepth 20000 in
theorem w_334 : Cond.methodLink "VaryStore" 145 ⟨"VaryStore", "gather", "(LVaryStore$Text;Ljava/lang/String;)Z"⟩ ∈ TB := tb_in 334 (by decide +kernel) (by decide +kernel)
set_option maxRecDepth 20000 in
theorem w_336 : Cond.instanceMethod ⟨"VaryStore", "gather", "(LVaryStore$Text;Ljava/lang/String;)Z"⟩ ∈ TB := tb_in 336 (by decide +kernel) (by decide +kernel)
set_option maxRecDepth 20000 in
theorem w_5 : Cond.selects "VaryStore" ⟨"VaryStore", "gather", "(LVaryStore$Text;Ljava/lang/String;)Z"⟩ ⟨"VaryStore", "gather", "(LVaryStore$Text;Ljava/lang/String;)Z"⟩ ∈ TB := tb_in 5 (by decide +kernel) (by decide +kernel)
set_option maxRecDepth 20000 in
theorem w_417 : Cond.code ⟨"VaryStore$Items", "cut", "(LVaryStore$Row;)V"⟩ prog_2_method_2_code 4 none ∈ TB := tb_in 417 (by decide +kernel) (by decide +kernel)
set_option maxRecDepth 20000 in
theorem w_414 : Cond.methodLink "VaryStore" 218 ⟨"VaryStore$Items", "cut", "(LVaryStore$Row;)V"⟩ ∈ TB := tb_in 414 (by decide +kernel) (by decide +kernel)
set_option maxRecDepth 20000 in
theorem w_415 : Cond.instanceMethod ⟨"VaryStore$Items", "cut", "(LVaryStore$Row;)V"⟩ ∈ TB := tb_in 415 (by decide +kernel) (by decide +kernel)
set_option maxRecDepth 20000 in
theorem w_416 : Cond.selects "VaryStore$Items" ⟨"VaryStore$Items", "cut", "(LVaryStore$Row;)V"⟩ ⟨"VaryStore$Items", "cut", "(LVaryStore$Row;)V"⟩ ∈ TB := tb_in 416 (by decide +kernel) (by decide +kernel)
set_option maxRecDepth 20000 in
theorem w_66 : Cond.fieldLinkNest "VaryStore" 59 "VaryStore$Row" "length" "I" "VaryStore"  ∈ NB := nb_in 66 (by decide +kernel) (by decide +kernel)
set_option maxRecDepth 20000 in
theorem w_484 : Cond.code ⟨"VaryStore$Row", "number", "(II)I"⟩ prog_3_method_13_code 5 (some .int) ∈ TB := tb_in 484 (by decide +kernel) (by decide +kernel)
set_option maxRecDepth 20000 in
theorem w_616 : Cond.methodLink "VaryStore" 222 ⟨"VaryStore$Row", "number", "(II)I"⟩ ∈ TB := tb_in 616 (by decide +kernel) (by decide +kernel)
set_option maxRecDepth 20000 in
theorem w_482 : Cond.instanceMethod ⟨"VaryStore$Row", "number", "(II)I"⟩ ∈ TB := tb_in 482 (by decide +kernel) (by decide +kernel)
set_option maxRecDepth 20000 in
theorem w_483 : Cond.selects "VaryStore$Row" ⟨"VaryStore$Row", "number", "(II)I"⟩ ⟨"VaryStore$Row", "number", "(II)I"⟩ ∈ TB := tb_in 483 (by decide +kernel) (by decide +kernel)
set_option maxRecDepth 20000 in
theorem w_85 : Cond.fieldLinkNest "VaryStore" 133 "VaryStore$Shelf" "count" "I" "VaryStore"  ∈ NB := nb_in 85 (by decide +kernel) (by decide +kernel)
set_option maxRecDepth 20000 in
theorem w_229 : Cond.code ⟨"VaryStore$Row", "copy", "(LVaryStore$Row;)V"⟩ prog_3_method_6_code 2 none ∈ TB := tb_in 229 (by decide +kernel) (by decide +kernel)
set_option maxRecDepth 20000 in
theorem w_226 : Cond.methodLink "VaryStore$Text" 32 ⟨"VaryStore$Row", "copy", "(LVaryStore$Row;)V"⟩ ∈ TB := tb_in 226 (by decide +kernel) (by decide +kernel)
set_option maxRecDepth 20000 in
theorem w_227 : Cond.instanceMethod ⟨"VaryStore$Row", "copy", "(LVaryStore$Row;)V"⟩ ∈ TB := tb_in 227 (by decide +kernel) (by decide +kernel)
set_option maxRecDepth 20000 in
theorem w_228 : Cond.selects "VaryStore$Row" ⟨"VaryStore$Row", "copy", "(LVaryStore$Row;)V"⟩ ⟨"VaryStore$Row", "copy", "(LVaryStore$Row;)V"⟩ ∈ TB := tb_in 228 (by decide +kernel) (by decide +kernel)
set_option maxRecDepth 20000 in
theorem w_68 : Cond.fieldLinkNest "VaryStore$Text" 42 "VaryStore$Row" "length" "I" "VaryStore"  ∈ NB := nb_in 68 (by decide +kernel) (by decide +kernel)
set_option maxRecDepth 100000 in
theorem fa_It_29 : FA "VaryStore$Items" 29 2 1 R_Ro F_Ro 2 t_Ro := ⟨rfl, uw_Ro, by decide, to_Ro, n_Ro, Or.inr ⟨"VaryStore", w_67⟩⟩
set_option maxRecDepth 100000 in
theorem fa_VS_59 : FA "VaryStore" 59 2 1 R_Ro F_Ro 2 t_Ro := ⟨rfl, uw_Ro, by decide, to_Ro, n_Ro, Or.inr ⟨"VaryStore", w_66⟩⟩
set_option maxRecDepth 100000 in
theorem fa_VS_133 : FA "VaryStore" 133 3 1 R_Sh F_Sh 3 t_Sh := ⟨rfl, uw_Sh, by decide, to_Sh, n_Sh, Or.inr ⟨"VaryStore", w_85⟩⟩
set_option maxRecDepth 100000 in
theorem fa_Te_42 : FA "VaryStore$Text" 42 2 1 R_Ro F_Ro 2 t_Ro := ⟨rfl, uw_Ro, by decide, to_Ro, n_Ro, Or.inr ⟨"VaryStore", w_68⟩⟩
def k_Ro_skip0 : MS := ("VaryStore$Row", b_Ro_skipBlanks, 4, (some .int), "skipBlanks", { frames := 0, cells := 0, slots := 0, locals := 0 }, [])
set_option maxRecDepth 100000 in
set_option maxHeartbeats 4000000 in
theorem c_Ro_skip0 (Γ : GE) (a : Nat) {M : HM} {n : Nat}   : CT Γ k_Ro_skip0 y_Ro_skipBlanks [.ref (a), .int (iI (0)), .int (iI (0))] M (n) (fun v M' n' => n = n' ∧ (∀ q, M' q = M q) ∧ v = some (.int (iI (0)))) := by
  refine CT.of (by decide) rfl rfl 1 rfl (Nat.le_of_ble_eq_true rfl) rfl ?_
  refine g_iload_n d_Ro_skipBlanks_0 rfl ?_
  refine g_istore_n d_Ro_skipBlanks_1 (by decide) rfl ?_
  refine g_iload_n d_Ro_skipBlanks_2 rfl ?_
  refine g_iload_n d_Ro_skipBlanks_3 rfl ?_
  refine g_icmp_ge (tgt := 23) d_Ro_skipBlanks_4 (by decide) (fun _ => ?_) (fun h1 => False.elim (by omega))
  refine g_iload_n d_Ro_skipBlanks_23 rfl ?_
  refine g_iret d_Ro_skipBlanks_24 rfl ?_ (by decide) (by decide)
  exact ⟨rfl, fun q  => rfl, rfl⟩
def k_Ro_skipb0 : MS := ("VaryStore$Row", b_Ro_skipBlanksBack, 4, (some .int), "skipBlanksBack", { frames := 0, cells := 0, slots := 0, locals := 0 }, [])
set_option maxRecDepth 100000 in
set_option maxHeartbeats 4000000 in
theorem c_Ro_skipb0 (Γ : GE) (a : Nat) {M : HM} {n : Nat}   : CT Γ k_Ro_skipb0 y_Ro_skipBlanksBack [.ref (a), .int (iI (0)), .int (iI (0))] M (n) (fun v M' n' => n = n' ∧ (∀ q, M' q = M q) ∧ v = some (.int (iI (0)))) := by
  refine CT.of (by decide) rfl rfl 1 rfl (Nat.le_of_ble_eq_true rfl) rfl ?_
  refine g_iload_n d_Ro_skipBlanksBack_0 rfl ?_
  refine g_istore_n d_Ro_skipBlanksBack_1 (by decide) rfl ?_
  refine g_iload_n d_Ro_skipBlanksBack_2 rfl ?_
  refine g_iload_n d_Ro_skipBlanksBack_3 rfl ?_
  refine g_icmp_le (tgt := 25) d_Ro_skipBlanksBack_4 (by decide) (fun _ => ?_) (fun h1 => False.elim (by omega))
  refine g_iload_n d_Ro_skipBlanksBack_25 rfl ?_
  refine g_iret d_Ro_skipBlanksBack_26 rfl ?_ (by decide) (by decide)
  exact ⟨rfl, fun q  => rfl, rfl⟩
def k_Te_gather0 : MS := ("VaryStore$Text", b_Te_gather, 6, (some .boolean), "gather", { frames := 1, cells := 0, slots := 0, locals := 20 }, [])
set_option maxRecDepth 100000 in
set_option maxHeartbeats 4000000 in
theorem c_Te_gather0 (Γ : GE) (t : Nat) (m : Nat) (c : Nat) (x : Nat) (z : Int) {M : HM} {n : Nat} (htc : t ≠ c) (p0 : M (t) = some (.inr (4, [.ref (t + 1), .ref (t + 3), .ref (t + 4), .ref (t + 5), .int (iI (0))]))) (p1 : M (c) = some (.inr (2, [.ref (x), .int (iI (z))]))) : CT Γ k_Te_gather0 y_Te_gather [.ref (t), .ref (m), .ref (c)] M (n) (fun v M' n' => n = n' ∧ (∀ q, q ≠ c → M' q = M q) ∧ v = some (.int (iI (0))) ∧ M' (c) = some (.inr (2, [.ref (x), .int (iI (0))]))) := by
  refine CT.of (by decide) rfl rfl 3 rfl (Nat.le_of_ble_eq_true rfl) rfl ?_
  refine g_iconst d_Te_gather_0 ?_
  refine g_istore_n d_Te_gather_1 (by decide) rfl ?_
  refine g_aload_n d_Te_gather_2 rfl ?_
  refine g_callV0 (ν := k_Ro_clear) ⟨w_395, w_31, w_260, by decide, by decide, by decide +kernel⟩ w_258 w_259 (c_Ro_clear Γ (c) (x) (z)  p1) d_Te_gather_3 p1 rfl rfl ⟨⟨by decide, by decide⟩, ⟨by decide, by decide⟩⟩ (Nat.le_of_ble_eq_true rfl) (fun v1 M1 n1 hQ1 hn1 hd1 => ?_)
  obtain ⟨rfl, hf1, rfl, hw1_0⟩ := hQ1
  refine g_iconst d_Te_gather_6 ?_
  refine g_istore d_Te_gather_7 (by decide) rfl ?_
  refine g_iload d_Te_gather_9 rfl ?_
  refine g_aload_n d_Te_gather_11 rfl ?_
  refine g_get fa_Te_28 d_Te_gather_12 ((hf1 (t) (by omega)).trans p0) rfl ?_
  refine g_icmp_ge (tgt := 127) d_Te_gather_15 (by decide) (fun _ => ?_) (fun h2 => False.elim (by omega))
  refine g_iload_n d_Te_gather_127 rfl ?_
  refine g_zret (ty := .boolean) (by first | rfl | decide) d_Te_gather_128 rfl ?_ (by decide) (by decide)
  exact ⟨rfl, fun q e0 => ((hf1 q (by omega)).trans rfl), rfl, hw1_0⟩
def k_It_addItem0 : MS := ("VaryStore$Items", b_It_addItem, 6, none, "addItem", { frames := 1, cells := 0, slots := 0, locals := 23 }, [])
set_option maxRecDepth 100000 in
set_option maxHeartbeats 4000000 in
theorem c_It_addItem0 (Γ : GE) (s : Nat) (v : Nat) (x : Nat) {M : HM} {n : Nat}  (p0 : M (v) = some (.inr (2, [.ref (x), .int (iI (0))]))) : CT Γ k_It_addItem0 y_It_addItem [.ref (s), .ref (v), .int (iI (0)), .int (iI (0))] M (n) (fun v M' n' => n = n' ∧ (∀ q, M' q = M q) ∧ v = none) := by
  refine CT.of (by decide) rfl rfl 2 rfl (Nat.le_of_ble_eq_true rfl) rfl ?_
  refine g_aload_n d_It_addItem_0 rfl ?_
  refine g_iload_n d_It_addItem_1 rfl ?_
  refine g_iload_n d_It_addItem_2 rfl ?_
  refine g_callV2 (ν := k_Ro_skip0) ⟨w_424, w_31, w_405, by decide, by decide, by decide +kernel⟩ w_403 w_404 (c_Ro_skip0 Γ (v)  ) d_It_addItem_3 p0 rfl rfl ⟨⟨by decide, by decide⟩, ⟨by decide, by decide⟩⟩ (Nat.le_of_ble_eq_true rfl) (fun v1 M1 n1 hQ1 hn1 hd1 => ?_)
  obtain ⟨rfl, hf1, rfl⟩ := hQ1
  refine g_istore d_It_addItem_6 (by decide) rfl ?_
  refine g_aload_n d_It_addItem_8 rfl ?_
  refine g_iload d_It_addItem_9 rfl ?_
  refine g_iload_n d_It_addItem_11 rfl ?_
  refine g_callV2 (ν := k_Ro_skipb0) ⟨w_425, w_31, w_409, by decide, by decide, by decide +kernel⟩ w_407 w_408 (c_Ro_skipb0 Γ (v)  ) d_It_addItem_12 ((hf1 (v) ).trans p0) rfl rfl ⟨⟨by decide, by decide⟩, ⟨by decide, by decide⟩⟩ (Nat.le_of_ble_eq_true rfl) (fun v2 M2 n2 hQ2 hn2 hd2 => ?_)
  obtain ⟨rfl, hf2, rfl⟩ := hQ2
  refine g_istore d_It_addItem_15 (by decide) rfl ?_
  refine g_iload d_It_addItem_17 rfl ?_
  refine g_iload d_It_addItem_19 rfl ?_
  refine g_icmp_ge (tgt := 36) d_It_addItem_21 (by decide) (fun _ => ?_) (fun h3 => False.elim (by omega))
  refine g_vret d_It_addItem_36 rfl ?_ (by decide) (by decide)
  exact ⟨rfl, fun q  => ((hf2 q ).trans ((hf1 q ).trans rfl)), rfl⟩
def k_It_cut0 : MS := ("VaryStore$Items", b_It_cut, 4, none, "cut", { frames := 2, cells := 0, slots := 0, locals := 48 }, [])
set_option maxRecDepth 100000 in
set_option maxHeartbeats 4000000 in
theorem c_It_cut0 (Γ : GE) (s : Nat) (v : Nat) (cc : Int) (z : Int) (y : Nat) (e : Nat) (x : Nat) {M : HM} {n : Nat} (h1 : v ≠ s) (h2 : v ≠ s + 1) (p0 : M (s) = some (.inr (1, [.ref (s + 1), .ref (e), .int (iI (cc))]))) (p1 : M (s + 1) = some (.inr (2, [.ref (y), .int (iI (z))]))) (p2 : M (v) = some (.inr (2, [.ref (x), .int (iI (0))]))) : CT Γ k_It_cut0 y_It_cut [.ref (s), .ref (v)] M (n) (fun v M' n' => n = n' ∧ (∀ q, q ≠ s + 1 → q ≠ s → M' q = M q) ∧ v = none ∧ M' (s + 1) = some (.inr (2, [.ref (y), .int (iI (0))])) ∧ M' (s) = some (.inr (1, [.ref (s + 1), .ref (e), .int (iI (0))]))) := by
  refine CT.of (by decide) rfl rfl 2 rfl (Nat.le_of_ble_eq_true rfl) rfl ?_
  refine g_aload_n d_It_cut_0 rfl ?_
  refine g_get fa_It_12 d_It_cut_1 p0 rfl ?_
  refine g_callV0 (ν := k_Ro_clear) ⟨w_418, w_31, w_260, by decide, by decide, by decide +kernel⟩ w_258 w_259 (c_Ro_clear Γ (s + 1) (y) (z)  p1) d_It_cut_4 p1 rfl rfl ⟨⟨by decide, by decide⟩, ⟨by decide, by decide⟩⟩ (Nat.le_of_ble_eq_true rfl) (fun v1 M1 n1 hQ1 hn1 hd1 => ?_)
  obtain ⟨rfl, hf1, rfl, hw1_0⟩ := hQ1
  refine g_aload_n d_It_cut_7 rfl ?_
  refine g_iconst d_It_cut_8 ?_
  refine g_put fa_It_22 d_It_cut_9 ((hf1 (s) (by omega)).trans p0) (Nat.le_of_ble_eq_true rfl) rfl rfl rfl ?_
  refine g_iconst d_It_cut_12 ?_
  refine g_istore_n d_It_cut_13 (by decide) rfl ?_
  refine g_iconst d_It_cut_14 ?_
  refine g_istore_n d_It_cut_15 (by decide) rfl ?_
  refine g_iload_n d_It_cut_16 rfl ?_
  refine g_aload_n d_It_cut_17 rfl ?_
  refine g_get fa_It_29 d_It_cut_18 ((hu_ne (by omega)).trans ((hf1 (v) (by omega)).trans p2)) rfl ?_
  refine g_icmp_gt (tgt := 59) d_It_cut_21 (by decide) (fun h2 => False.elim (by omega)) (fun _ => ?_)
  refine g_iload_n d_It_cut_24 rfl ?_
  refine g_aload_n d_It_cut_25 rfl ?_
  refine g_get fa_It_29 d_It_cut_26 ((hu_ne (by omega)).trans ((hf1 (v) (by omega)).trans p2)) rfl ?_
  refine g_icmp_eq (tgt := 42) d_It_cut_29 (by decide) (fun _ => ?_) (fun h3 => False.elim (by omega))
  refine g_aload_n d_It_cut_42 rfl ?_
  refine g_aload_n d_It_cut_43 rfl ?_
  refine g_iload_n d_It_cut_44 rfl ?_
  refine g_iload_n d_It_cut_45 rfl ?_
  refine g_callV3 (ν := k_It_addItem0) ⟨w_420, w_34, w_423, by decide, by decide, by decide +kernel⟩ w_422 w_6 (c_It_addItem0 Γ (s) (v) (x)  ((hu_ne (by omega)).trans ((hf1 (v) (by omega)).trans p2))) d_It_cut_46 (hu_same _ _ _) rfl rfl ⟨⟨by decide, by decide⟩, ⟨by decide, by decide⟩⟩ (Nat.le_of_ble_eq_true rfl) (fun v4 M4 n4 hQ4 hn4 hd4 => ?_)
  obtain ⟨rfl, hf4, rfl⟩ := hQ4
  refine g_iload_n d_It_cut_49 rfl ?_
  refine g_iconst d_It_cut_50 ?_
  refine g_iadd d_It_cut_51 ?_
  refine g_istore_n d_It_cut_52 (by decide) rfl ?_
  refine g_iinc d_It_cut_53 rfl (by decide) rfl ?_
  refine g_goto (tgt := 16) d_It_cut_56 (by decide) ?_
  refine g_iload_n d_It_cut_16 rfl ?_
  refine g_aload_n d_It_cut_17 rfl ?_
  refine g_get fa_It_29 d_It_cut_18 ((hf4 (v) ).trans ((hu_ne (by omega)).trans ((hf1 (v) (by omega)).trans p2))) rfl ?_
  refine g_icmp_gt (tgt := 59) d_It_cut_21 (by decide) (fun _ => ?_) (fun h5 => False.elim (by omega))
  refine g_vret d_It_cut_59 rfl ?_ (by decide) (by decide)
  exact ⟨rfl, fun q e0 e1 => ((hf4 q ).trans ((hu_ne (by omega)).trans ((hf1 q (by omega)).trans rfl))), rfl, ((hf4 (s + 1) ).trans ((hu_ne (by omega)).trans hw1_0)), ((hf4 (s) ).trans (hu_same _ _ _))⟩
def k_It_said0 : MS := ("VaryStore$Items", b_It_said, 5, (some .int), "said", { frames := 0, cells := 0, slots := 0, locals := 0 }, [])
set_option maxRecDepth 100000 in
set_option maxHeartbeats 4000000 in
theorem c_It_said0 (Γ : GE) (s : Nat) (li : Nat) (r : Nat) (e : Nat) {M : HM} {n : Nat}  (p0 : M (s) = some (.inr (1, [.ref (r), .ref (e), .int (iI (0))]))) : CT Γ k_It_said0 y_It_said [.ref (s), .ref (Γ.2.2.2.1 li)] M (n) (fun v M' n' => n = n' ∧ (∀ q, M' q = M q) ∧ v = some (.int (iI ((-2))))) := by
  refine CT.of (by decide) rfl rfl 3 rfl (Nat.le_of_ble_eq_true rfl) rfl ?_
  refine g_bipush d_It_said_0 (by decide) ?_
  refine g_istore_n d_It_said_2 (by decide) rfl ?_
  refine g_iconst d_It_said_3 ?_
  refine g_istore_n d_It_said_4 (by decide) rfl ?_
  refine g_iload_n d_It_said_5 rfl ?_
  refine g_aload_n d_It_said_6 rfl ?_
  refine g_get fa_It_22 d_It_said_7 p0 rfl ?_
  refine g_icmp_ge (tgt := 46) d_It_said_10 (by decide) (fun _ => ?_) (fun h1 => False.elim (by omega))
  refine g_iload_n d_It_said_46 rfl ?_
  refine g_iret d_It_said_47 rfl ?_ (by decide) (by decide)
  exact ⟨rfl, fun q  => rfl, rfl⟩
def k_It_has0 : MS := ("VaryStore$Items", b_It_has, 2, (some .boolean), "has", { frames := 1, cells := 0, slots := 0, locals := 24 }, [])
set_option maxRecDepth 100000 in
set_option maxHeartbeats 4000000 in
theorem c_It_has0 (Γ : GE) (s : Nat) (li : Nat) (r : Nat) (e : Nat) {M : HM} {n : Nat}  (p0 : M (s) = some (.inr (1, [.ref (r), .ref (e), .int (iI (0))]))) : CT Γ k_It_has0 y_It_has [.ref (s), .ref (Γ.2.2.2.1 li)] M (n) (fun v M' n' => n = n' ∧ (∀ q, M' q = M q) ∧ v = some (.int (iI (0)))) := by
  refine CT.of (by decide) rfl rfl 0 rfl (Nat.le_of_ble_eq_true rfl) rfl ?_
  refine g_aload_n d_It_has_0 rfl ?_
  refine g_aload_n d_It_has_1 rfl ?_
  refine g_callV1 (ν := k_It_said0) ⟨w_490, w_34, w_469, by decide, by decide, by decide +kernel⟩ w_467 w_468 (c_It_said0 Γ (s) (li) (r) (e)  p0) d_It_has_2 p0 rfl rfl ⟨⟨by decide, by decide⟩, ⟨by decide, by decide⟩⟩ (Nat.le_of_ble_eq_true rfl) (fun v1 M1 n1 hQ1 hn1 hd1 => ?_)
  obtain ⟨rfl, hf1, rfl⟩ := hQ1
  refine g_bipush d_It_has_5 (by decide) ?_
  refine g_icmp_eq (tgt := 14) d_It_has_7 (by decide) (fun _ => ?_) (fun h2 => False.elim (by omega))
  refine g_iconst d_It_has_14 ?_
  refine g_zret (ty := .boolean) (by first | rfl | decide) d_It_has_15 rfl ?_ (by decide) (by decide)
  exact ⟨rfl, fun q  => ((hf1 q ).trans rfl), rfl⟩
def k_It_holds0 : MS := ("VaryStore$Items", b_It_holds, 4, (some .boolean), "holds", { frames := 0, cells := 0, slots := 0, locals := 0 }, [])
set_option maxRecDepth 100000 in
set_option maxHeartbeats 4000000 in
theorem c_It_holds0 (Γ : GE) (s : Nat) (li : Nat) (r : Nat) (e : Nat) {M : HM} {n : Nat}  (p0 : M (s) = some (.inr (1, [.ref (r), .ref (e), .int (iI (0))]))) : CT Γ k_It_holds0 y_It_holds [.ref (s), .ref (Γ.2.2.2.1 li)] M (n) (fun v M' n' => n = n' ∧ (∀ q, M' q = M q) ∧ v = some (.int (iI (0)))) := by
  refine CT.of (by decide) rfl rfl 2 rfl (Nat.le_of_ble_eq_true rfl) rfl ?_
  refine g_iconst d_It_holds_0 ?_
  refine g_istore_n d_It_holds_1 (by decide) rfl ?_
  refine g_iload_n d_It_holds_2 rfl ?_
  refine g_aload_n d_It_holds_3 rfl ?_
  refine g_get fa_It_22 d_It_holds_4 p0 rfl ?_
  refine g_icmp_ge (tgt := 47) d_It_holds_7 (by decide) (fun _ => ?_) (fun h1 => False.elim (by omega))
  refine g_iconst d_It_holds_47 ?_
  refine g_zret (ty := .boolean) (by first | rfl | decide) d_It_holds_48 rfl ?_ (by decide) (by decide)
  exact ⟨rfl, fun q  => rfl, rfl⟩
def k_Ro_number0 : MS := ("VaryStore$Row", b_Ro_number, 5, (some .int), "number", { frames := 0, cells := 0, slots := 0, locals := 0 }, [])
set_option maxRecDepth 100000 in
set_option maxHeartbeats 4000000 in
theorem c_Ro_number0 (Γ : GE) (a : Nat) {M : HM} {n : Nat}   : CT Γ k_Ro_number0 y_Ro_number [.ref (a), .int (iI (0)), .int (iI (0))] M (n) (fun v M' n' => n = n' ∧ (∀ q, M' q = M q) ∧ v = some (.int (iI ((-1))))) := by
  refine CT.of (by decide) rfl rfl 2 rfl (Nat.le_of_ble_eq_true rfl) rfl ?_
  refine g_iload_n d_Ro_number_0 rfl ?_
  refine g_iload_n d_Ro_number_1 rfl ?_
  refine g_isub d_Ro_number_2 ?_
  refine g_iconst d_Ro_number_3 ?_
  refine g_icmp_lt (tgt := 15) d_Ro_number_4 (by decide) (fun _ => ?_) (fun h1 => False.elim (by omega))
  refine g_iconst d_Ro_number_15 ?_
  refine g_iret d_Ro_number_16 rfl ?_ (by decide) (by decide)
  exact ⟨rfl, fun q  => rfl, rfl⟩
def k_VS_gather0 : MS := ("VaryStore", b_VS_gather, 3, (some .boolean), "gather", { frames := 5, cells := 0, slots := 0, locals := 107 }, [])
set_option maxRecDepth 100000 in
set_option maxHeartbeats 4000000 in
theorem c_VS_gather0 (Γ : GE) (b : Nat) (rq : Nat) (dr : Nat) (fp : Int) (tm : Int) (t : Nat) (li : Nat) (z : Int) (f : Nat → Int32) (w : Int) (x : Nat) {M : HM} {n : Nat} (hl : li < nLit) (ht : t + 6 ≤ b + 17 ∨ b + 33 ≤ t) (p0 : M (b) = some (.inr (0, [.ref (b + 1), .ref (b + 3), .ref (rq), .ref (dr), .int (iI (fp)), .int (iI (tm)), .ref (b + 17), .ref (b + 19), .ref (b + 21), .ref (b + 25), .ref (b + 29)]))) (p1 : M (b + 17) = some (.inr (2, [.ref (b + 18), .int (iI (z))]))) (p2 : M (b + 17 + 1) = some (.inl (Γ.2.2.1 0, 300, .inl (f)))) (p3 : M (b + 19) = some (.inr (2, [.ref (x), .int (iI (w))]))) (p4 : M (t) = some (.inr (4, [.ref (t + 1), .ref (t + 3), .ref (t + 4), .ref (t + 5), .int (iI (0))]))) : CT Γ k_VS_gather0 y_VS_gather [.ref (b), .ref (t), .ref (Γ.2.2.2.1 li)] M (n) (fun v M' n' => n = n' ∧ (∀ q, q ≠ b + 17 → q ≠ b + 18 → q ≠ b + 19 → M' q = M q) ∧ ∃ (zs1x0 : Int) (fs1x1 : Nat → Int32), v = some (.int (iI (0))) ∧ 0 ≤ zs1x0 ∧ zs1x0 ≤ 40 ∧ M' (b + 17) = some (.inr (2, [.ref (b + 18), .int (iI (zs1x0))])) ∧ M' (b + 18) = some (.inl (Γ.2.2.1 0, 300, .inl (fs1x1))) ∧ M' (b + 19) = some (.inr (2, [.ref (x), .int (iI (0))]))) := by
  refine CT.of (by decide) rfl rfl 0 rfl (Nat.le_of_ble_eq_true rfl) rfl ?_
  refine g_aload_n d_VS_gather_0 rfl ?_
  refine g_get fa_VS_40 d_VS_gather_1 p0 rfl ?_
  refine g_aload_n d_VS_gather_4 rfl ?_
  refine g_callV1 (ν := k_Ro_set) ⟨w_338, w_31, w_341, by decide, by decide, by decide +kernel⟩ w_339 w_340 (c_Ro_set Γ (b + 17) (li) (z) (f) (by first | omega | decide | (have h9 := lenLit_le li; omega)) p1 p2) d_VS_gather_5 p1 rfl rfl ⟨⟨by decide, by decide⟩, ⟨by decide, by decide⟩⟩ (Nat.le_of_ble_eq_true rfl) (fun v1 M1 n1 hQ1 hn1 hd1 => ?_)
  obtain ⟨rfl, hf1, zs1x0, fs1x1, rfl, hb1_zs1x0_0, hb1_zs1x0_1, hw1_0, hw1_1⟩ := hQ1
  refine g_aload_n d_VS_gather_8 rfl ?_
  refine g_aload_n d_VS_gather_9 rfl ?_
  refine g_get fa_VS_40 d_VS_gather_10 ((hf1 (b) (by omega) (by omega)).trans p0) rfl ?_
  refine g_aload_n d_VS_gather_13 rfl ?_
  refine g_get fa_VS_43 d_VS_gather_14 ((hf1 (b) (by omega) (by omega)).trans p0) rfl ?_
  refine g_callV2 (ν := k_Te_gather0) ⟨w_391, w_33, w_394, by decide, by decide, by decide +kernel⟩ w_392 w_393 (c_Te_gather0 Γ (t) (b + 17) (b + 19) (x) (w) (by omega) ((hf1 (t) (by omega) (by omega)).trans p4) ((hf1 ((b + 19)) (by omega) (by omega)).trans p3)) d_VS_gather_17 ((hf1 (t) (by omega) (by omega)).trans p4) rfl rfl ⟨⟨by decide, by decide⟩, ⟨by decide, by decide⟩⟩ (Nat.le_of_ble_eq_true rfl) (fun v2 M2 n2 hQ2 hn2 hd2 => ?_)
  obtain ⟨rfl, hf2, rfl, hw2_0⟩ := hQ2
  refine g_zret (ty := .boolean) (by first | rfl | exact nar_char (by omega)) d_VS_gather_20 rfl ?_ (by decide) (by decide)
  exact ⟨rfl, fun q e0 e1 e2 => ((hf2 q (by omega)).trans ((hf1 q (by omega) (by omega)).trans rfl)), zs1x0, fs1x1, rfl, hb1_zs1x0_0, hb1_zs1x0_1, ((hf2 (b + 17) (by omega)).trans hw1_0), ((hf2 (b + 18) (by omega)).trans hw1_1), hw2_0⟩
def k_VS_cutList0 : MS := ("VaryStore", b_VS_cutList, 5, (some .boolean), "cutList", { frames := 6, cells := 0, slots := 0, locals := 129 }, [])
set_option maxRecDepth 100000 in
set_option maxHeartbeats 4000000 in
theorem c_VS_cutList0 (Γ : GE) (b : Nat) (rq : Nat) (dr : Nat) (fp : Int) (tm : Int) (t : Nat) (li : Nat) (s : Nat) (z : Int) (f : Nat → Int32) (w : Int) (x : Nat) (cc : Int) (zz : Int) (y : Nat) (e : Nat) {M : HM} {n : Nat} (hl : li < nLit) (ht : t + 6 ≤ b + 17 ∨ b + 33 ≤ t) (hs : b + 21 ≤ s) (p0 : M (b) = some (.inr (0, [.ref (b + 1), .ref (b + 3), .ref (rq), .ref (dr), .int (iI (fp)), .int (iI (tm)), .ref (b + 17), .ref (b + 19), .ref (b + 21), .ref (b + 25), .ref (b + 29)]))) (p1 : M (b + 17) = some (.inr (2, [.ref (b + 18), .int (iI (z))]))) (p2 : M (b + 17 + 1) = some (.inl (Γ.2.2.1 0, 300, .inl (f)))) (p3 : M (b + 19) = some (.inr (2, [.ref (x), .int (iI (w))]))) (p4 : M (t) = some (.inr (4, [.ref (t + 1), .ref (t + 3), .ref (t + 4), .ref (t + 5), .int (iI (0))]))) (p5 : M (s) = some (.inr (1, [.ref (s + 1), .ref (e), .int (iI (cc))]))) (p6 : M (s + 1) = some (.inr (2, [.ref (y), .int (iI (zz))]))) : CT Γ k_VS_cutList0 y_VS_cutList [.ref (b), .ref (t), .ref (Γ.2.2.2.1 li), .ref (s)] M (n) (fun v M' n' => n = n' ∧ (∀ q, q ≠ b + 17 → q ≠ b + 18 → q ≠ b + 19 → q ≠ s + 1 → q ≠ s → M' q = M q) ∧ ∃ (zs1x0 : Int) (fs1x1 : Nat → Int32), v = some (.int (iI (0))) ∧ 0 ≤ zs1x0 ∧ zs1x0 ≤ 40 ∧ M' (b + 17) = some (.inr (2, [.ref (b + 18), .int (iI (zs1x0))])) ∧ M' (b + 18) = some (.inl (Γ.2.2.1 0, 300, .inl (fs1x1))) ∧ M' (b + 19) = some (.inr (2, [.ref (x), .int (iI (0))])) ∧ M' (s + 1) = some (.inr (2, [.ref (y), .int (iI (0))])) ∧ M' (s) = some (.inr (1, [.ref (s + 1), .ref (e), .int (iI (0))]))) := by
  refine CT.of (by decide) rfl rfl 1 rfl (Nat.le_of_ble_eq_true rfl) rfl ?_
  refine g_aload_n d_VS_cutList_0 rfl ?_
  refine g_aload_n d_VS_cutList_1 rfl ?_
  refine g_aload_n d_VS_cutList_2 rfl ?_
  refine g_callV2 (ν := k_VS_gather0) ⟨w_334, w_30, w_337, by decide, by decide, by decide +kernel⟩ w_336 w_5 (c_VS_gather0 Γ (b) (rq) (dr) (fp) (tm) (t) (li) (z) (f) (w) (x) (by first | omega | decide | (have h9 := lenLit_le li; omega)) (by first | omega | decide | (have h9 := lenLit_le li; omega)) p0 p1 p2 p3 p4) d_VS_cutList_3 p0 rfl rfl ⟨⟨by decide, by decide⟩, ⟨by decide, by decide⟩⟩ (Nat.le_of_ble_eq_true rfl) (fun v1 M1 n1 hQ1 hn1 hd1 => ?_)
  obtain ⟨rfl, hf1, zs1x0, fs1x1, rfl, hb1_zs1x0_0, hb1_zs1x0_1, hw1_0, hw1_1, hw1_2⟩ := hQ1
  refine g_istore d_VS_cutList_6 (by decide) rfl ?_
  refine g_aload_n d_VS_cutList_8 rfl ?_
  refine g_aload_n d_VS_cutList_9 rfl ?_
  refine g_get fa_VS_43 d_VS_cutList_10 ((hf1 (b) (by omega) (by omega) (by omega)).trans p0) rfl ?_
  refine g_callV1 (ν := k_It_cut0) ⟨w_414, w_34, w_417, by decide, by decide, by decide +kernel⟩ w_415 w_416 (c_It_cut0 Γ (s) (b + 19) (cc) (zz) (y) (e) (x) (by omega) (by omega) ((hf1 (s) (by omega) (by omega) (by omega)).trans p5) ((hf1 (s + 1) (by omega) (by omega) (by omega)).trans p6) hw1_2) d_VS_cutList_13 ((hf1 (s) (by omega) (by omega) (by omega)).trans p5) rfl rfl ⟨⟨by decide, by decide⟩, ⟨by decide, by decide⟩⟩ (Nat.le_of_ble_eq_true rfl) (fun v2 M2 n2 hQ2 hn2 hd2 => ?_)
  obtain ⟨rfl, hf2, rfl, hw2_0, hw2_1⟩ := hQ2
  refine g_iload d_VS_cutList_16 rfl ?_
  refine g_zret (ty := .boolean) (by first | rfl | exact nar_char (by omega)) d_VS_cutList_18 rfl ?_ (by decide) (by decide)
  exact ⟨rfl, fun q e0 e1 e2 e3 e4 => ((hf2 q (by omega) (by omega)).trans ((hf1 q (by omega) (by omega) (by omega)).trans rfl)), zs1x0, fs1x1, rfl, hb1_zs1x0_0, hb1_zs1x0_1, ((hf2 (b + 17) (by omega) (by omega)).trans hw1_0), ((hf2 (b + 18) (by omega) (by omega)).trans hw1_1), ((hf2 (b + 19) (by omega) (by omega)).trans hw1_2), hw2_0, hw2_1⟩
def k_VS_numberOf0 : MS := ("VaryStore", b_VS_numberOf, 2, (some .int), "numberOf", { frames := 6, cells := 0, slots := 0, locals := 129 }, [])
set_option maxRecDepth 100000 in
set_option maxHeartbeats 4000000 in
theorem c_VS_numberOf0 (Γ : GE) (b : Nat) (rq : Nat) (dr : Nat) (fp : Int) (tm : Int) (li : Nat) (z : Int) (f : Nat → Int32) (w : Int) (x : Nat) {M : HM} {n : Nat} (hl : li < nLit) (ht : dr + 6 ≤ b + 17 ∨ b + 33 ≤ dr) (p0 : M (b) = some (.inr (0, [.ref (b + 1), .ref (b + 3), .ref (rq), .ref (dr), .int (iI (fp)), .int (iI (tm)), .ref (b + 17), .ref (b + 19), .ref (b + 21), .ref (b + 25), .ref (b + 29)]))) (p1 : M (b + 17) = some (.inr (2, [.ref (b + 18), .int (iI (z))]))) (p2 : M (b + 17 + 1) = some (.inl (Γ.2.2.1 0, 300, .inl (f)))) (p3 : M (b + 19) = some (.inr (2, [.ref (x), .int (iI (w))]))) (p4 : M (dr) = some (.inr (4, [.ref (dr + 1), .ref (dr + 3), .ref (dr + 4), .ref (dr + 5), .int (iI (0))]))) : CT Γ k_VS_numberOf0 y_VS_numberOf [.ref (b), .ref (Γ.2.2.2.1 li)] M (n) (fun v M' n' => n = n' ∧ (∀ q, q ≠ b + 17 → q ≠ b + 18 → q ≠ b + 19 → M' q = M q) ∧ ∃ (zs1x0 : Int) (fs1x1 : Nat → Int32), v = some (.int (iI ((-1)))) ∧ 0 ≤ zs1x0 ∧ zs1x0 ≤ 40 ∧ M' (b + 17) = some (.inr (2, [.ref (b + 18), .int (iI (zs1x0))])) ∧ M' (b + 18) = some (.inl (Γ.2.2.1 0, 300, .inl (fs1x1))) ∧ M' (b + 19) = some (.inr (2, [.ref (x), .int (iI (0))]))) := by
  refine CT.of (by decide) rfl rfl 0 rfl (Nat.le_of_ble_eq_true rfl) rfl ?_
  refine g_aload_n d_VS_numberOf_0 rfl ?_
  refine g_aload_n d_VS_numberOf_1 rfl ?_
  refine g_get fa_VS_30 d_VS_numberOf_2 p0 rfl ?_
  refine g_aload_n d_VS_numberOf_5 rfl ?_
  refine g_callV2 (ν := k_VS_gather0) ⟨w_334, w_30, w_337, by decide, by decide, by decide +kernel⟩ w_336 w_5 (c_VS_gather0 Γ (b) (rq) (dr) (fp) (tm) (dr) (li) (z) (f) (w) (x) (by first | omega | decide | (have h9 := lenLit_le li; omega)) (by first | omega | decide | (have h9 := lenLit_le li; omega)) p0 p1 p2 p3 p4) d_VS_numberOf_6 p0 rfl rfl ⟨⟨by decide, by decide⟩, ⟨by decide, by decide⟩⟩ (Nat.le_of_ble_eq_true rfl) (fun v1 M1 n1 hQ1 hn1 hd1 => ?_)
  obtain ⟨rfl, hf1, zs1x0, fs1x1, rfl, hb1_zs1x0_0, hb1_zs1x0_1, hw1_0, hw1_1, hw1_2⟩ := hQ1
  refine g_pop d_VS_numberOf_9 rfl ?_
  refine g_aload_n d_VS_numberOf_10 rfl ?_
  refine g_get fa_VS_43 d_VS_numberOf_11 ((hf1 (b) (by omega) (by omega) (by omega)).trans p0) rfl ?_
  refine g_iconst d_VS_numberOf_14 ?_
  refine g_aload_n d_VS_numberOf_15 rfl ?_
  refine g_get fa_VS_43 d_VS_numberOf_16 ((hf1 (b) (by omega) (by omega) (by omega)).trans p0) rfl ?_
  refine g_get fa_VS_59 d_VS_numberOf_19 hw1_2 rfl ?_
  refine g_callV2 (ν := k_Ro_number0) ⟨w_616, w_31, w_484, by decide, by decide, by decide +kernel⟩ w_482 w_483 (c_Ro_number0 Γ (b + 19)  ) d_VS_numberOf_22 hw1_2 rfl rfl ⟨⟨by decide, by decide⟩, ⟨by decide, by decide⟩⟩ (Nat.le_of_ble_eq_true rfl) (fun v2 M2 n2 hQ2 hn2 hd2 => ?_)
  obtain ⟨rfl, hf2, rfl⟩ := hQ2
  refine g_iret d_VS_numberOf_25 rfl ?_ (by decide) (by decide)
  exact ⟨rfl, fun q e0 e1 e2 => ((hf2 q ).trans ((hf1 q (by omega) (by omega) (by omega)).trans rfl)), zs1x0, fs1x1, rfl, hb1_zs1x0_0, hb1_zs1x0_1, ((hf2 (b + 17) ).trans hw1_0), ((hf2 (b + 18) ).trans hw1_1), ((hf2 (b + 19) ).trans hw1_2)⟩
def k_Sh_at0 : MS := ("VaryStore$Shelf", b_Sh_at, 2, (some (.object "VaryStore$Thing")), "at", { frames := 0, cells := 0, slots := 0, locals := 0 }, [])
set_option maxRecDepth 100000 in
set_option maxHeartbeats 4000000 in
theorem c_Sh_at0 (Γ : GE) (s : Nat) (i : Int) (u : Int) {M : HM} {n : Nat} (i0 : -2147483648 ≤ i) (i1 : i < 2147483648) (p0 : M (s) = some (.inr (3, [.ref (s + 1), .int (iI (0)), .int (iI (u))]))) : CT Γ k_Sh_at0 y_Sh_at [.ref (s), .int (iI (i))] M (n) (fun v M' n' => n = n' ∧ (∀ q, M' q = M q) ∧ v = some (.null)) := by
  refine CT.of (by decide) rfl rfl 0 rfl (Nat.le_of_ble_eq_true rfl) rfl ?_
  refine g_iload_n d_Sh_at_0 rfl ?_
  refine g_if_lt (tgt := 21) d_Sh_at_1 (by decide) (fun h1 => ?_) (fun h1 => ?_)
  · skip
    refine g_null d_Sh_at_21 ?_
    refine g_aret (rt := (.object "VaryStore$Thing")) (by first | exact Or.inl ⟨_, rfl⟩ | exact Or.inr ⟨_, rfl⟩) (by first | exact Or.inl rfl | exact Or.inr ⟨_, rfl⟩) d_Sh_at_22 rfl ?_ (by decide) (by decide)
    exact ⟨rfl, fun q  => rfl, rfl⟩
  · skip
    refine g_iload_n d_Sh_at_4 rfl ?_
    refine g_aload_n d_Sh_at_5 rfl ?_
    refine g_get fa_Sh_17 d_Sh_at_6 p0 rfl ?_
    refine g_icmp_ge (tgt := 21) d_Sh_at_9 (by decide) (fun h2 => ?_) (fun h2 => False.elim (by omega))
    refine g_null d_Sh_at_21 ?_
    refine g_aret (rt := (.object "VaryStore$Thing")) (by first | exact Or.inl ⟨_, rfl⟩ | exact Or.inr ⟨_, rfl⟩) (by first | exact Or.inl rfl | exact Or.inr ⟨_, rfl⟩) d_Sh_at_22 rfl ?_ (by decide) (by decide)
    exact ⟨rfl, fun q  => rfl, rfl⟩
def k_VS_theOne0 : MS := ("VaryStore", b_VS_placeOfTheOne, 4, (some .int), "placeOfTheOne", { frames := 0, cells := 0, slots := 0, locals := 0 }, [])
set_option maxRecDepth 100000 in
set_option maxHeartbeats 4000000 in
theorem c_VS_theOne0 (Γ : GE) (b : Nat) (rq : Nat) (dr : Nat) (fp : Int) (tm : Int) (path : Int) (u : Int) {M : HM} {n : Nat}  (p0 : M (b) = some (.inr (0, [.ref (b + 1), .ref (b + 3), .ref (rq), .ref (dr), .int (iI (fp)), .int (iI (tm)), .ref (b + 17), .ref (b + 19), .ref (b + 21), .ref (b + 25), .ref (b + 29)]))) (p1 : M (b + 3) = some (.inr (3, [.ref (b + 4), .int (iI (0)), .int (iI (u))]))) : CT Γ k_VS_theOne0 y_VS_placeOfTheOne [.ref (b), .int (iI (path))] M (n) (fun v M' n' => n = n' ∧ (∀ q, M' q = M q) ∧ v = some (.int (iI ((-1))))) := by
  refine CT.of (by decide) rfl rfl 2 rfl (Nat.le_of_ble_eq_true rfl) rfl ?_
  refine g_aload_n d_VS_placeOfTheOne_0 rfl ?_
  refine g_get fa_VS_19 d_VS_placeOfTheOne_1 p0 rfl ?_
  refine g_get fa_VS_133 d_VS_placeOfTheOne_4 p1 rfl ?_
  refine g_iconst d_VS_placeOfTheOne_7 ?_
  refine g_isub d_VS_placeOfTheOne_8 ?_
  refine g_istore_n d_VS_placeOfTheOne_9 (by decide) rfl ?_
  refine g_iload_n d_VS_placeOfTheOne_10 rfl ?_
  refine g_if_lt (tgt := 51) d_VS_placeOfTheOne_11 (by decide) (fun _ => ?_) (fun h1 => False.elim (by omega))
  refine g_iconst d_VS_placeOfTheOne_51 ?_
  refine g_iret d_VS_placeOfTheOne_52 rfl ?_ (by decide) (by decide)
  exact ⟨rfl, fun q  => rfl, rfl⟩
def k_VS_same0 : MS := ("VaryStore", b_VS_placeOfSame, 4, (some .int), "placeOfSame", { frames := 0, cells := 0, slots := 0, locals := 0 }, [])
set_option maxRecDepth 100000 in
set_option maxHeartbeats 4000000 in
theorem c_VS_same0 (Γ : GE) (b : Nat) (rq : Nat) (dr : Nat) (fp : Int) (tm : Int) (g : Nat) (u : Int) {M : HM} {n : Nat}  (p0 : M (b) = some (.inr (0, [.ref (b + 1), .ref (b + 3), .ref (rq), .ref (dr), .int (iI (fp)), .int (iI (tm)), .ref (b + 17), .ref (b + 19), .ref (b + 21), .ref (b + 25), .ref (b + 29)]))) (p1 : M (b + 3) = some (.inr (3, [.ref (b + 4), .int (iI (0)), .int (iI (u))]))) : CT Γ k_VS_same0 y_VS_placeOfSame [.ref (b), .ref (g)] M (n) (fun v M' n' => n = n' ∧ (∀ q, M' q = M q) ∧ v = some (.int (iI ((-1))))) := by
  refine CT.of (by decide) rfl rfl 2 rfl (Nat.le_of_ble_eq_true rfl) rfl ?_
  refine g_iconst d_VS_placeOfSame_0 ?_
  refine g_istore_n d_VS_placeOfSame_1 (by decide) rfl ?_
  refine g_iload_n d_VS_placeOfSame_2 rfl ?_
  refine g_aload_n d_VS_placeOfSame_3 rfl ?_
  refine g_get fa_VS_19 d_VS_placeOfSame_4 p0 rfl ?_
  refine g_get fa_VS_133 d_VS_placeOfSame_7 p1 rfl ?_
  refine g_icmp_ge (tgt := 67) d_VS_placeOfSame_10 (by decide) (fun _ => ?_) (fun h1 => False.elim (by omega))
  refine g_iconst d_VS_placeOfSame_67 ?_
  refine g_iret d_VS_placeOfSame_68 rfl ?_ (by decide) (by decide)
  exact ⟨rfl, fun q  => rfl, rfl⟩
def k_VS_things0 : MS := ("VaryStore", b_VS_things, 1, (some .int), "things", { frames := 0, cells := 0, slots := 0, locals := 0 }, [])
set_option maxRecDepth 100000 in
set_option maxHeartbeats 4000000 in
theorem c_VS_things0 (Γ : GE) (b : Nat) (rq : Nat) (dr : Nat) (fp : Int) (tm : Int) (u : Int) {M : HM} {n : Nat}  (p0 : M (b) = some (.inr (0, [.ref (b + 1), .ref (b + 3), .ref (rq), .ref (dr), .int (iI (fp)), .int (iI (tm)), .ref (b + 17), .ref (b + 19), .ref (b + 21), .ref (b + 25), .ref (b + 29)]))) (p1 : M (b + 3) = some (.inr (3, [.ref (b + 4), .int (iI (0)), .int (iI (u))]))) : CT Γ k_VS_things0 y_VS_things [.ref (b)] M (n) (fun v M' n' => n = n' ∧ (∀ q, M' q = M q) ∧ v = some (.int (iI (0)))) := by
  refine CT.of (by decide) rfl rfl 0 rfl (Nat.le_of_ble_eq_true rfl) rfl ?_
  refine g_aload_n d_VS_things_0 rfl ?_
  refine g_get fa_VS_19 d_VS_things_1 p0 rfl ?_
  refine g_get fa_VS_133 d_VS_things_4 p1 rfl ?_
  refine g_iret d_VS_things_7 rfl ?_ (by decide) (by decide)
  exact ⟨rfl, fun q  => rfl, rfl⟩
def k_VS_fault : MS := ("VaryStore", b_VS_fault, 1, (some .int), "fault", { frames := 0, cells := 0, slots := 0, locals := 0 }, [])
set_option maxRecDepth 100000 in
set_option maxHeartbeats 4000000 in
theorem c_VS_fault (Γ : GE) (b : Nat) (rq : Nat) (dr : Nat) (fp : Int) (tm : Int) {M : HM} {n : Nat}  (p0 : M (b) = some (.inr (0, [.ref (b + 1), .ref (b + 3), .ref (rq), .ref (dr), .int (iI (fp)), .int (iI (tm)), .ref (b + 17), .ref (b + 19), .ref (b + 21), .ref (b + 25), .ref (b + 29)]))) : CT Γ k_VS_fault y_VS_fault [.ref (b)] M (n) (fun v M' n' => n = n' ∧ (∀ q, M' q = M q) ∧ v = some (.int (iI (fp)))) := by
  refine CT.of (by decide) rfl rfl 0 rfl (Nat.le_of_ble_eq_true rfl) rfl ?_
  refine g_aload_n d_VS_fault_0 rfl ?_
  refine g_get fa_VS_33 d_VS_fault_1 p0 rfl ?_
  refine g_iret d_VS_fault_4 rfl ?_ (by decide) (by decide)
  exact ⟨rfl, fun q  => rfl, rfl⟩
def k_VS_purge0 : MS := ("VaryStore", b_VS_purge, 5, (some .int), "purge", { frames := 0, cells := 0, slots := 0, locals := 0 }, [])
set_option maxRecDepth 100000 in
set_option maxHeartbeats 4000000 in
theorem c_VS_purge0 (Γ : GE) (b : Nat) (rq : Nat) (dr : Nat) (fp : Int) (tm : Int) (path : Int) (u : Int) {M : HM} {n : Nat}  (p0 : M (b) = some (.inr (0, [.ref (b + 1), .ref (b + 3), .ref (rq), .ref (dr), .int (iI (fp)), .int (iI (tm)), .ref (b + 17), .ref (b + 19), .ref (b + 21), .ref (b + 25), .ref (b + 29)]))) (p1 : M (b + 3) = some (.inr (3, [.ref (b + 4), .int (iI (0)), .int (iI (u))]))) : CT Γ k_VS_purge0 y_VS_purge [.ref (b), .int (iI (path))] M (n) (fun v M' n' => n = n' ∧ (∀ q, M' q = M q) ∧ v = some (.int (iI (0)))) := by
  refine CT.of (by decide) rfl rfl 3 rfl (Nat.le_of_ble_eq_true rfl) rfl ?_
  refine g_iconst d_VS_purge_0 ?_
  refine g_istore_n d_VS_purge_1 (by decide) rfl ?_
  refine g_aload_n d_VS_purge_2 rfl ?_
  refine g_get fa_VS_19 d_VS_purge_3 p0 rfl ?_
  refine g_get fa_VS_133 d_VS_purge_6 p1 rfl ?_
  refine g_iconst d_VS_purge_9 ?_
  refine g_isub d_VS_purge_10 ?_
  refine g_istore_n d_VS_purge_11 (by decide) rfl ?_
  refine g_iload_n d_VS_purge_12 rfl ?_
  refine g_if_lt (tgt := 57) d_VS_purge_13 (by decide) (fun _ => ?_) (fun h1 => False.elim (by omega))
  refine g_iload_n d_VS_purge_57 rfl ?_
  refine g_iret d_VS_purge_58 rfl ?_ (by decide) (by decide)
  exact ⟨rfl, fun q  => rfl, rfl⟩
def k_Sh_drop0 : MS := ("VaryStore$Shelf", b_Sh_drop, 2, none, "drop", { frames := 0, cells := 0, slots := 0, locals := 0 }, [])
set_option maxRecDepth 100000 in
set_option maxHeartbeats 4000000 in
theorem c_Sh_drop0 (Γ : GE) (s : Nat) {M : HM} {n : Nat}   : CT Γ k_Sh_drop0 y_Sh_drop [.ref (s), .int (iI ((-1)))] M (n) (fun v M' n' => n = n' ∧ (∀ q, M' q = M q) ∧ v = none) := by
  refine CT.of (by decide) rfl rfl 0 rfl (Nat.le_of_ble_eq_true rfl) rfl ?_
  refine g_iload_n d_Sh_drop_0 rfl ?_
  refine g_if_lt (tgt := 27) d_Sh_drop_1 (by decide) (fun _ => ?_) (fun h1 => False.elim (by omega))
  refine g_vret d_Sh_drop_27 rfl ?_ (by decide) (by decide)
  exact ⟨rfl, fun q  => rfl, rfl⟩
def k_Te_read0 : MS := ("VaryStore$Text", b_Te_read, 4, (some .int), "read", { frames := 2, cells := 0, slots := 0, locals := 61 }, [])
set_option maxRecDepth 100000 in
set_option maxHeartbeats 4000000 in
theorem c_Te_read0 (Γ : GE) (t : Nat) (c : Nat) (f : Nat → Int32) (g : Nat → Int32) (z : Int) (ln : Int) {M : HM} {n : Nat} (htc : t + 6 ≤ c ∨ c + 2 ≤ t) (p0 : M (t) = some (.inr (4, [.ref (t + 1), .ref (t + 3), .ref (t + 4), .ref (t + 5), .int (iI (ln))]))) (p1 : M (t + 1) = some (.inr (2, [.ref (t + 2), .int (iI (z))]))) (p2 : M (t + 1 + 1) = some (.inl (Γ.2.2.1 0, 300, .inl (f)))) (p3 : M (c) = some (.inr (2, [.ref (c + 1), .int (iI (0))]))) (p4 : M (c + 1) = some (.inl (Γ.2.2.1 0, 300, .inl (g)))) : CT Γ k_Te_read0 y_Te_read [.ref (t), .ref (c)] M (n) (fun v M' n' => n = n' ∧ (∀ q, q ≠ t + 2 → q ≠ t + 1 → q ≠ t → M' q = M q) ∧ v = some (.int (iI ((-1)))) ∧ M' (t + 2) = some (.inl (Γ.2.2.1 0, 300, .inl (f))) ∧ M' (t + 1) = some (.inr (2, [.ref (t + 2), .int (iI (0))])) ∧ M' (t) = some (.inr (4, [.ref (t + 1), .ref (t + 3), .ref (t + 4), .ref (t + 5), .int (iI (0))]))) := by
  refine CT.of (by decide) rfl rfl 2 rfl (Nat.le_of_ble_eq_true rfl) rfl ?_
  refine g_aload_n d_Te_read_0 rfl ?_
  refine g_get fa_Te_12 d_Te_read_1 p0 rfl ?_
  refine g_aload_n d_Te_read_4 rfl ?_
  refine g_callV1 (ν := k_Ro_copy0) ⟨w_226, w_31, w_229, by decide, by decide, by decide +kernel⟩ w_227 w_228 (c_Ro_copy0 Γ (t + 1) (c) (z) (f) (g) (by omega) p1 p2 p3 p4) d_Te_read_5 p1 rfl rfl ⟨⟨by decide, by decide⟩, ⟨by decide, by decide⟩⟩ (Nat.le_of_ble_eq_true rfl) (fun v1 M1 n1 hQ1 hn1 hd1 => ?_)
  obtain ⟨rfl, hf1, rfl, hw1_0, hw1_1⟩ := hQ1
  refine g_aload_n d_Te_read_8 rfl ?_
  refine g_iconst d_Te_read_9 ?_
  refine g_put fa_Te_28 d_Te_read_10 ((hf1 (t) (by omega) (by omega)).trans p0) (Nat.le_of_ble_eq_true rfl) rfl rfl rfl ?_
  refine g_iconst d_Te_read_13 ?_
  refine g_istore_n d_Te_read_14 (by decide) rfl ?_
  refine g_iconst d_Te_read_15 ?_
  refine g_istore_n d_Te_read_16 (by decide) rfl ?_
  refine g_iload_n d_Te_read_17 rfl ?_
  refine g_aload_n d_Te_read_18 rfl ?_
  refine g_get fa_Te_12 d_Te_read_19 (hu_same _ _ _) rfl ?_
  refine g_get fa_Te_42 d_Te_read_22 ((hu_ne (by omega)).trans hw1_1) rfl ?_
  refine g_icmp_ge (tgt := 62) d_Te_read_25 (by decide) (fun _ => ?_) (fun h2 => False.elim (by omega))
  refine g_iload_n d_Te_read_62 rfl ?_
  refine g_aload_n d_Te_read_63 rfl ?_
  refine g_get fa_Te_12 d_Te_read_64 (hu_same _ _ _) rfl ?_
  refine g_get fa_Te_42 d_Te_read_67 ((hu_ne (by omega)).trans hw1_1) rfl ?_
  refine g_icmp_ge (tgt := 77) d_Te_read_70 (by decide) (fun _ => ?_) (fun h3 => False.elim (by omega))
  refine g_iconst d_Te_read_77 ?_
  refine g_iret d_Te_read_78 rfl ?_ (by decide) (by decide)
  exact ⟨rfl, fun q e0 e1 e2 => ((hu_ne (by omega)).trans ((hf1 q (by omega) (by omega)).trans rfl)), rfl, ((hu_ne (by omega)).trans hw1_0), ((hu_ne (by omega)).trans hw1_1), (hu_same _ _ _)⟩
end
section
theorem d_VS_readTape_0 : decode b_VS_readTape 0 = .ok (.aload_n 0, 1) := by decide +kernel
theorem d_VS_readTape_1 : decode b_VS_readTape 1 = .ok (.aload_n 0, 1) := by decide +kernel
theorem d_VS_readTape_2 : decode b_VS_readTape 2 = .ok (.getfield 30, 3) := by decide +kernel
theorem d_VS_readTape_5 : decode b_VS_readTape 5 = .ok (.aload_n 0, 1) := by decide +kernel
theorem d_VS_readTape_6 : decode b_VS_readTape 6 = .ok (.getfield 12, 3) := by decide +kernel
theorem d_VS_readTape_9 : decode b_VS_readTape 9 = .ok (.invokevirtual 201, 3) := by decide +kernel
theorem d_VS_readTape_12 : decode b_VS_readTape 12 = .ok (.putfield 33, 3) := by decide +kernel
theorem d_VS_readTape_15 : decode b_VS_readTape 15 = .ok (.aload_n 0, 1) := by decide +kernel
theorem d_VS_readTape_16 : decode b_VS_readTape 16 = .ok (.getfield 12, 3) := by decide +kernel
theorem d_VS_readTape_19 : decode b_VS_readTape 19 = .ok (.invokevirtual 205, 3) := by decide +kernel
theorem d_VS_readTape_22 : decode b_VS_readTape 22 = .ok (.aload_n 0, 1) := by decide +kernel
theorem d_VS_readTape_23 : decode b_VS_readTape 23 = .ok (.getfield 33, 3) := by decide +kernel
theorem d_VS_readTape_26 : decode b_VS_readTape 26 = .ok (.iconst (-1), 1) := by decide +kernel
theorem d_VS_readTape_27 : decode b_VS_readTape 27 = .ok (.if_icmp .eq 13, 3) := by decide +kernel
theorem d_VS_readTape_40 : decode b_VS_readTape 40 = .ok (.iload_n 1, 1) := by decide +kernel
theorem d_VS_readTape_41 : decode b_VS_readTape 41 = .ok (.ifCond .lt 9, 3) := by decide +kernel
theorem d_VS_readTape_50 : decode b_VS_readTape 50 = .ok (.new 163, 3) := by decide +kernel
theorem d_VS_readTape_53 : decode b_VS_readTape 53 = .ok (.dup, 1) := by decide +kernel
theorem d_VS_readTape_54 : decode b_VS_readTape 54 = .ok (.ldc 210, 2) := by decide +kernel
theorem d_VS_readTape_56 : decode b_VS_readTape 56 = .ok (.invokespecial 167, 3) := by decide +kernel
theorem d_VS_readTape_59 : decode b_VS_readTape 59 = .ok (.athrow, 1) := by decide +kernel
theorem d_VS_readTape_44 : decode b_VS_readTape 44 = .ok (.iload_n 1, 1) := by decide +kernel
theorem d_VS_readTape_45 : decode b_VS_readTape 45 = .ok (.bipush 16, 2) := by decide +kernel
theorem d_VS_readTape_47 : decode b_VS_readTape 47 = .ok (.if_icmp .lt 13, 3) := by decide +kernel
theorem d_VS_readTape_60 : decode b_VS_readTape 60 = .ok (.return_, 1) := by decide +kernel
theorem d_VS_ask_0 : decode b_VS_ask 0 = .ok (.aload_n 0, 1) := by decide +kernel
theorem d_VS_ask_1 : decode b_VS_ask 1 = .ok (.iload_n 1, 1) := by decide +kernel
theorem d_VS_ask_2 : decode b_VS_ask 2 = .ok (.invokevirtual 74, 3) := by decide +kernel
theorem d_VS_ask_5 : decode b_VS_ask 5 = .ok (.aload_n 0, 1) := by decide +kernel
theorem d_VS_ask_6 : decode b_VS_ask 6 = .ok (.getfield 26, 3) := by decide +kernel
theorem d_VS_ask_9 : decode b_VS_ask 9 = .ok (.astore_n 2, 1) := by decide +kernel
theorem d_VS_ask_10 : decode b_VS_ask 10 = .ok (.aload_n 0, 1) := by decide +kernel
theorem d_VS_ask_11 : decode b_VS_ask 11 = .ok (.aload_n 0, 1) := by decide +kernel
theorem d_VS_ask_12 : decode b_VS_ask 12 = .ok (.getfield 30, 3) := by decide +kernel
theorem d_VS_ask_15 : decode b_VS_ask 15 = .ok (.putfield 26, 3) := by decide +kernel
theorem d_VS_ask_18 : decode b_VS_ask 18 = .ok (.aload_n 0, 1) := by decide +kernel
theorem d_VS_ask_19 : decode b_VS_ask 19 = .ok (.aload_n 2, 1) := by decide +kernel
theorem d_VS_ask_20 : decode b_VS_ask 20 = .ok (.putfield 30, 3) := by decide +kernel
theorem d_VS_ask_23 : decode b_VS_ask 23 = .ok (.aload_n 0, 1) := by decide +kernel
theorem d_VS_ask_24 : decode b_VS_ask 24 = .ok (.aload_n 0, 1) := by decide +kernel
theorem d_VS_ask_25 : decode b_VS_ask 25 = .ok (.getfield 26, 3) := by decide +kernel
theorem d_VS_ask_28 : decode b_VS_ask 28 = .ok (.ldc 78, 2) := by decide +kernel
theorem d_VS_ask_30 : decode b_VS_ask 30 = .ok (.aload_n 0, 1) := by decide +kernel
theorem d_VS_ask_31 : decode b_VS_ask 31 = .ok (.getfield 49, 3) := by decide +kernel
theorem d_VS_ask_34 : decode b_VS_ask 34 = .ok (.invokevirtual 80, 3) := by decide +kernel
theorem d_VS_ask_37 : decode b_VS_ask 37 = .ok (.pop, 1) := by decide +kernel
theorem d_VS_ask_38 : decode b_VS_ask 38 = .ok (.aload_n 0, 1) := by decide +kernel
theorem d_VS_ask_39 : decode b_VS_ask 39 = .ok (.getfield 19, 3) := by decide +kernel
theorem d_VS_ask_42 : decode b_VS_ask 42 = .ok (.aload_n 0, 1) := by decide +kernel
theorem d_VS_ask_43 : decode b_VS_ask 43 = .ok (.iload_n 1, 1) := by decide +kernel
theorem d_VS_ask_44 : decode b_VS_ask 44 = .ok (.invokevirtual 84, 3) := by decide +kernel
theorem d_VS_ask_47 : decode b_VS_ask 47 = .ok (.invokevirtual 88, 3) := by decide +kernel
theorem d_VS_ask_50 : decode b_VS_ask 50 = .ok (.astore_n 3, 1) := by decide +kernel
theorem d_VS_ask_51 : decode b_VS_ask 51 = .ok (.aload_n 3, 1) := by decide +kernel
theorem d_VS_ask_52 : decode b_VS_ask 52 = .ok (.ifnonnull 7, 3) := by decide +kernel
theorem d_VS_ask_55 : decode b_VS_ask 55 = .ok (.iconst 0, 1) := by decide +kernel
theorem d_VS_ask_56 : decode b_VS_ask 56 = .ok (.goto 8, 3) := by decide +kernel
theorem d_VS_ask_64 : decode b_VS_ask 64 = .ok (.istore 4, 2) := by decide +kernel
theorem d_VS_ask_66 : decode b_VS_ask 66 = .ok (.iload 4, 2) := by decide +kernel
theorem d_VS_ask_68 : decode b_VS_ask 68 = .ok (.iconst 1, 1) := by decide +kernel
theorem d_VS_ask_69 : decode b_VS_ask 69 = .ok (.if_icmp .eq 9, 3) := by decide +kernel
theorem d_VS_ask_72 : decode b_VS_ask 72 = .ok (.iload 4, 2) := by decide +kernel
theorem d_VS_ask_74 : decode b_VS_ask 74 = .ok (.iconst 2, 1) := by decide +kernel
theorem d_VS_ask_75 : decode b_VS_ask 75 = .ok (.if_icmp .ne 14, 3) := by decide +kernel
theorem d_VS_ask_89 : decode b_VS_ask 89 = .ok (.aload_n 0, 1) := by decide +kernel
theorem d_VS_ask_90 : decode b_VS_ask 90 = .ok (.getfield 49, 3) := by decide +kernel
theorem d_VS_ask_93 : decode b_VS_ask 93 = .ok (.ldc 100, 2) := by decide +kernel
theorem d_VS_ask_95 : decode b_VS_ask 95 = .ok (.invokevirtual 102, 3) := by decide +kernel
theorem d_VS_ask_98 : decode b_VS_ask 98 = .ok (.ifCond .eq 7, 3) := by decide +kernel
theorem d_VS_ask_105 : decode b_VS_ask 105 = .ok (.iload 4, 2) := by decide +kernel
theorem d_VS_ask_107 : decode b_VS_ask 107 = .ok (.ireturn, 1) := by decide +kernel
theorem d_VS_again_0 : decode b_VS_again 0 = .ok (.aload_n 0, 1) := by decide +kernel
theorem d_VS_again_1 : decode b_VS_again 1 = .ok (.iload_n 1, 1) := by decide +kernel
theorem d_VS_again_2 : decode b_VS_again 2 = .ok (.invokevirtual 74, 3) := by decide +kernel
theorem d_VS_again_5 : decode b_VS_again 5 = .ok (.aload_n 0, 1) := by decide +kernel
theorem d_VS_again_6 : decode b_VS_again 6 = .ok (.iload_n 1, 1) := by decide +kernel
theorem d_VS_again_7 : decode b_VS_again 7 = .ok (.invokevirtual 84, 3) := by decide +kernel
theorem d_VS_again_10 : decode b_VS_again 10 = .ok (.istore_n 2, 1) := by decide +kernel
theorem d_VS_again_11 : decode b_VS_again 11 = .ok (.aload_n 0, 1) := by decide +kernel
theorem d_VS_again_12 : decode b_VS_again 12 = .ok (.getfield 19, 3) := by decide +kernel
theorem d_VS_again_15 : decode b_VS_again 15 = .ok (.iload_n 2, 1) := by decide +kernel
theorem d_VS_again_16 : decode b_VS_again 16 = .ok (.invokevirtual 88, 3) := by decide +kernel
theorem d_VS_again_19 : decode b_VS_again 19 = .ok (.astore_n 3, 1) := by decide +kernel
theorem d_VS_again_20 : decode b_VS_again 20 = .ok (.aload_n 3, 1) := by decide +kernel
theorem d_VS_again_21 : decode b_VS_again 21 = .ok (.ifnonnull 5, 3) := by decide +kernel
theorem d_VS_again_24 : decode b_VS_again 24 = .ok (.iconst 0, 1) := by decide +kernel
theorem d_VS_again_25 : decode b_VS_again 25 = .ok (.ireturn, 1) := by decide +kernel
theorem d_VS_pass_0 : decode b_VS_pass 0 = .ok (.iload_n 1, 1) := by decide +kernel
theorem d_VS_pass_1 : decode b_VS_pass 1 = .ok (.iconst 1, 1) := by decide +kernel
theorem d_VS_pass_2 : decode b_VS_pass 2 = .ok (.if_icmp .lt 20, 3) := by decide +kernel
theorem d_VS_pass_22 : decode b_VS_pass 22 = .ok (.new 163, 3) := by decide +kernel
theorem d_VS_pass_25 : decode b_VS_pass 25 = .ok (.dup, 1) := by decide +kernel
theorem d_VS_pass_26 : decode b_VS_pass 26 = .ok (.ldc 165, 2) := by decide +kernel
theorem d_VS_pass_28 : decode b_VS_pass 28 = .ok (.invokespecial 167, 3) := by decide +kernel
theorem d_VS_pass_31 : decode b_VS_pass 31 = .ok (.athrow, 1) := by decide +kernel
theorem d_VS_pass_5 : decode b_VS_pass 5 = .ok (.iload_n 1, 1) := by decide +kernel
theorem d_VS_pass_6 : decode b_VS_pass 6 = .ok (.ldc 161, 2) := by decide +kernel
theorem d_VS_pass_8 : decode b_VS_pass 8 = .ok (.if_icmp .gt 14, 3) := by decide +kernel
theorem d_VS_pass_11 : decode b_VS_pass 11 = .ok (.aload_n 0, 1) := by decide +kernel
theorem d_VS_pass_12 : decode b_VS_pass 12 = .ok (.getfield 37, 3) := by decide +kernel
theorem d_VS_pass_15 : decode b_VS_pass 15 = .ok (.iload_n 1, 1) := by decide +kernel
theorem d_VS_pass_16 : decode b_VS_pass 16 = .ok (.iadd, 1) := by decide +kernel
theorem d_VS_pass_17 : decode b_VS_pass 17 = .ok (.ldc 162, 2) := by decide +kernel
theorem d_VS_pass_19 : decode b_VS_pass 19 = .ok (.if_icmp .le 13, 3) := by decide +kernel
theorem d_VS_pass_32 : decode b_VS_pass 32 = .ok (.aload_n 0, 1) := by decide +kernel
theorem d_VS_pass_33 : decode b_VS_pass 33 = .ok (.dup, 1) := by decide +kernel
theorem d_VS_pass_34 : decode b_VS_pass 34 = .ok (.getfield 37, 3) := by decide +kernel
theorem d_VS_pass_37 : decode b_VS_pass 37 = .ok (.iload_n 1, 1) := by decide +kernel
theorem d_VS_pass_38 : decode b_VS_pass 38 = .ok (.iadd, 1) := by decide +kernel
theorem d_VS_pass_39 : decode b_VS_pass 39 = .ok (.putfield 37, 3) := by decide +kernel
theorem d_VS_pass_42 : decode b_VS_pass 42 = .ok (.aload_n 0, 1) := by decide +kernel
theorem d_VS_pass_43 : decode b_VS_pass 43 = .ok (.getfield 37, 3) := by decide +kernel
theorem d_VS_pass_46 : decode b_VS_pass 46 = .ok (.ireturn, 1) := by decide +kernel
set_option maxRecDepth 20000 in
theorem w_225 : Cond.code ⟨"VaryStore$Text", "read", "(LVaryStore$Row;)I"⟩ prog_5_method_3_code 4 (some .int) ∈ TB := tb_in 225 (by decide +kernel) (by decide +kernel)
set_option maxRecDepth 20000 in
theorem w_222 : Cond.methodLink "VaryStore" 201 ⟨"VaryStore$Text", "read", "(LVaryStore$Row;)I"⟩ ∈ TB := tb_in 222 (by decide +kernel) (by decide +kernel)
set_option maxRecDepth 20000 in
theorem w_223 : Cond.instanceMethod ⟨"VaryStore$Text", "read", "(LVaryStore$Row;)I"⟩ ∈ TB := tb_in 223 (by decide +kernel) (by decide +kernel)
set_option maxRecDepth 20000 in
theorem w_224 : Cond.selects "VaryStore$Text" ⟨"VaryStore$Text", "read", "(LVaryStore$Row;)I"⟩ ⟨"VaryStore$Text", "read", "(LVaryStore$Row;)I"⟩ ∈ TB := tb_in 224 (by decide +kernel) (by decide +kernel)
set_option maxRecDepth 20000 in
theorem w_257 : Cond.methodLink "VaryStore" 205 ⟨"VaryStore$Row", "clear", "()V"⟩ ∈ TB := tb_in 257 (by decide +kernel) (by decide +kernel)
set_option maxRecDepth 20000 in
theorem w_261 : Cond.classLink "VaryStore" 163 "java/lang/IllegalArgumentException" ∈ TB := tb_in 261 (by decide +kernel) (by decide +kernel)
set_option maxRecDepth 20000 in
theorem w_42 : Cond.initialized "java/lang/IllegalArgumentException" ∈ TB := tb_in 42 (by decide +kernel) (by decide +kernel)
set_option maxRecDepth 20000 in
theorem w_221 : Cond.code ⟨"VaryStore", "readTape", "(I)V"⟩ prog_1_method_14_code 2 none ∈ TB := tb_in 221 (by decide +kernel) (by decide +kernel)
set_option maxRecDepth 20000 in
theorem w_218 : Cond.methodLink "VaryStore" 74 ⟨"VaryStore", "readTape", "(I)V"⟩ ∈ TB := tb_in 218 (by decide +kernel) (by decide +kernel)
set_option maxRecDepth 20000 in
theorem w_220 : Cond.instanceMethod ⟨"VaryStore", "readTape", "(I)V"⟩ ∈ TB := tb_in 220 (by decide +kernel) (by decide +kernel)
set_option maxRecDepth 20000 in
theorem w_1 : Cond.selects "VaryStore" ⟨"VaryStore", "readTape", "(I)V"⟩ ⟨"VaryStore", "readTape", "(I)V"⟩ ∈ TB := tb_in 1 (by decide +kernel) (by decide +kernel)
set_option maxRecDepth 20000 in
theorem w_333 : Cond.code ⟨"VaryStore", "cutList", "(LVaryStore$Text;Ljava/lang/String;LVaryStore$Items;)Z"⟩ prog_1_method_16_code 5 (some .boolean) ∈ TB := tb_in 333 (by decide +kernel) (by decide +kernel)
set_option maxRecDepth 20000 in
theorem w_330 : Cond.methodLink "VaryStore" 80 ⟨"VaryStore", "cutList", "(LVaryStore$Text;Ljava/lang/String;LVaryStore$Items;)Z"⟩ ∈ TB := tb_in 330 (by decide +kernel) (by decide +kernel)
set_option maxRecDepth 20000 in
theorem w_332 : Cond.instanceMethod ⟨"VaryStore", "cutList", "(LVaryStore$Text;Ljava/lang/String;LVaryStore$Items;)Z"⟩ ∈ TB := tb_in 332 (by decide +kernel) (by decide +kernel)
set_option maxRecDepth 20000 in
theorem w_4 : Cond.selects "VaryStore" ⟨"VaryStore", "cutList", "(LVaryStore$Text;Ljava/lang/String;LVaryStore$Items;)Z"⟩ ⟨"VaryStore", "cutList", "(LVaryStore$Text;Ljava/lang/String;LVaryStore$Items;)Z"⟩ ∈ TB := tb_in 4 (by decide +kernel) (by decide +kernel)
set_option maxRecDepth 20000 in
theorem w_431 : Cond.code ⟨"VaryStore", "placeOfTheOne", "(I)I"⟩ prog_1_method_22_code 4 (some .int) ∈ TB := tb_in 431 (by decide +kernel) (by decide +kernel)
set_option maxRecDepth 20000 in
theorem w_428 : Cond.methodLink "VaryStore" 84 ⟨"VaryStore", "placeOfTheOne", "(I)I"⟩ ∈ TB := tb_in 428 (by decide +kernel) (by decide +kernel)
set_option maxRecDepth 20000 in
theorem w_430 : Cond.instanceMethod ⟨"VaryStore", "placeOfTheOne", "(I)I"⟩ ∈ TB := tb_in 430 (by decide +kernel) (by decide +kernel)
set_option maxRecDepth 20000 in
theorem w_7 : Cond.selects "VaryStore" ⟨"VaryStore", "placeOfTheOne", "(I)I"⟩ ⟨"VaryStore", "placeOfTheOne", "(I)I"⟩ ∈ TB := tb_in 7 (by decide +kernel) (by decide +kernel)
set_option maxRecDepth 20000 in
theorem w_197 : Cond.code ⟨"VaryStore$Shelf", "at", "(I)LVaryStore$Thing;"⟩ prog_4_method_2_code 2 (some (.object "VaryStore$Thing")) ∈ TB := tb_in 197 (by decide +kernel) (by decide +kernel)
set_option maxRecDepth 20000 in
theorem w_194 : Cond.methodLink "VaryStore" 88 ⟨"VaryStore$Shelf", "at", "(I)LVaryStore$Thing;"⟩ ∈ TB := tb_in 194 (by decide +kernel) (by decide +kernel)
set_option maxRecDepth 20000 in
theorem w_195 : Cond.instanceMethod ⟨"VaryStore$Shelf", "at", "(I)LVaryStore$Thing;"⟩ ∈ TB := tb_in 195 (by decide +kernel) (by decide +kernel)
set_option maxRecDepth 20000 in
theorem w_196 : Cond.selects "VaryStore$Shelf" ⟨"VaryStore$Shelf", "at", "(I)LVaryStore$Thing;"⟩ ⟨"VaryStore$Shelf", "at", "(I)LVaryStore$Thing;"⟩ ∈ TB := tb_in 196 (by decide +kernel) (by decide +kernel)
set_option maxRecDepth 20000 in
theorem w_489 : Cond.code ⟨"VaryStore$Items", "has", "(Ljava/lang/String;)Z"⟩ prog_2_method_10_code 2 (some .boolean) ∈ TB := tb_in 489 (by decide +kernel) (by decide +kernel)
set_option maxRecDepth 20000 in
theorem w_486 : Cond.methodLink "VaryStore" 102 ⟨"VaryStore$Items", "has", "(Ljava/lang/String;)Z"⟩ ∈ TB := tb_in 486 (by decide +kernel) (by decide +kernel)
set_option maxRecDepth 20000 in
theorem w_487 : Cond.instanceMethod ⟨"VaryStore$Items", "has", "(Ljava/lang/String;)Z"⟩ ∈ TB := tb_in 487 (by decide +kernel) (by decide +kernel)
set_option maxRecDepth 20000 in
theorem w_488 : Cond.selects "VaryStore$Items" ⟨"VaryStore$Items", "has", "(Ljava/lang/String;)Z"⟩ ⟨"VaryStore$Items", "has", "(Ljava/lang/String;)Z"⟩ ∈ TB := tb_in 488 (by decide +kernel) (by decide +kernel)
set_option maxRecDepth 20000 in
theorem w_664 : Cond.constant "VaryStore" 161 100000 ∈ TB := tb_in 664 (by decide +kernel) (by decide +kernel)
set_option maxRecDepth 20000 in
theorem w_665 : Cond.constant "VaryStore" 162 1000000000 ∈ TB := tb_in 665 (by decide +kernel) (by decide +kernel)
set_option maxRecDepth 100000 in
theorem at_VS_163_167 : (∀ w ∈ vx_atS "VaryStore" 167 "java/lang/IllegalArgumentException" ["java/lang/RuntimeException", "java/lang/Exception"], w ∈ TB ∨ w ∈ NB) ∧ (∀ w ∈ Cond.classLink "VaryStore" 163 "java/lang/IllegalArgumentException" :: Cond.initialized "java/lang/IllegalArgumentException" :: vx_atS "VaryStore" 167 "java/lang/IllegalArgumentException" ["java/lang/RuntimeException", "java/lang/Exception"], vx_ot w = true) := ⟨by decide +kernel, by decide +kernel⟩
def k_VS_readTape : MS := ("VaryStore", b_VS_readTape, 2, none, "readTape", { frames := 6, cells := 1, slots := 6, locals := 84 }, [])
set_option maxRecDepth 100000 in
set_option maxHeartbeats 4000000 in
theorem c_VS_readTape (Γ : GE) (b : Nat) (rq : Nat) (dr : Nat) (fp : Int) (tm : Int) (path : Int) (f1 : Nat → Int32) (f2 : Nat → Int32) (ln : Int) (zd : Int) {M : HM} {n : Nat} (pa : -2147483648 ≤ path) (pb : path < 2147483648) (hdr : b + 5 ≤ dr) (hdr2 : dr + 6 ≤ b + 17) (p0 : M (b) = some (.inr (0, [.ref (b + 1), .ref (b + 3), .ref (rq), .ref (dr), .int (iI (fp)), .int (iI (tm)), .ref (b + 17), .ref (b + 19), .ref (b + 21), .ref (b + 25), .ref (b + 29)]))) (p1 : M (b + 1) = some (.inr (2, [.ref (b + 2), .int (iI (0))]))) (p2 : M (b + 1 + 1) = some (.inl (Γ.2.2.1 0, 300, .inl (f1)))) (p3 : M (dr) = some (.inr (4, [.ref (dr + 1), .ref (dr + 3), .ref (dr + 4), .ref (dr + 5), .int (iI (ln))]))) (p4 : M (dr + 1) = some (.inr (2, [.ref (dr + 2), .int (iI (zd))]))) (p5 : M (dr + 1 + 1) = some (.inl (Γ.2.2.1 0, 300, .inl (f2)))) : CX Γ k_VS_readTape y_VS_readTape [.ref (b), .int (iI (path))] M (n) (fun v M' n' => n = n' ∧ (∀ q, q ≠ dr + 2 → q ≠ dr + 1 → q ≠ dr → q ≠ b → q ≠ b + 1 → M' q = M q) ∧ v = none ∧ M' (dr + 2) = some (.inl (Γ.2.2.1 0, 300, .inl (f2))) ∧ M' (dr + 1) = some (.inr (2, [.ref (dr + 2), .int (iI (0))])) ∧ M' (dr) = some (.inr (4, [.ref (dr + 1), .ref (dr + 3), .ref (dr + 4), .ref (dr + 5), .int (iI (0))])) ∧ M' (b) = some (.inr (0, [.ref (b + 1), .ref (b + 3), .ref (rq), .ref (dr), .int (iI ((-1))), .int (iI (tm)), .ref (b + 17), .ref (b + 19), .ref (b + 21), .ref (b + 25), .ref (b + 29)])) ∧ M' (b + 1) = some (.inr (2, [.ref (b + 2), .int (iI (0))])) ∧ (0 ≤ path ∧ path < 16)) (fun C M' n' => C = "java/lang/IllegalArgumentException" ∧ n ≤ n' ∧ (∀ q, q ≠ dr + 2 → q ≠ dr + 1 → q ≠ dr → q ≠ b → q ≠ b + 1 → M' q = M q) ∧ (¬ (0 ≤ path ∧ path < 16))) := by
  refine CX.of (by decide) rfl rfl 0 rfl (Nat.le_of_ble_eq_true rfl) rfl ?_
  refine g_aload_n d_VS_readTape_0 rfl ?_
  refine g_aload_n d_VS_readTape_1 rfl ?_
  refine g_get fa_VS_30 d_VS_readTape_2 p0 rfl ?_
  refine g_aload_n d_VS_readTape_5 rfl ?_
  refine g_get fa_VS_12 d_VS_readTape_6 p0 rfl ?_
  refine g_callV1 (ν := k_Te_read0) ⟨w_222, w_33, w_225, by decide, by decide, by decide +kernel⟩ w_223 w_224 (c_Te_read0 Γ (dr) (b + 1) (f2) (f1) (zd) (ln) (by omega) p3 p4 p5 p1 p2) d_VS_readTape_9 p3 rfl rfl ⟨⟨by decide, by decide⟩, ⟨by decide, by decide⟩⟩ (Nat.le_of_ble_eq_true rfl) (fun v1 M1 n1 hQ1 hn1 hd1 => ?_)
  obtain ⟨rfl, hf1, rfl, hw1_0, hw1_1, hw1_2⟩ := hQ1
  refine g_put fa_VS_33 d_VS_readTape_12 ((hf1 (b) (by omega) (by omega) (by omega)).trans p0) (Nat.le_of_ble_eq_true rfl) rfl rfl rfl ?_
  refine g_aload_n d_VS_readTape_15 rfl ?_
  refine g_get fa_VS_12 d_VS_readTape_16 (hu_same _ _ _) rfl ?_
  refine g_callV0 (ν := k_Ro_clear) ⟨w_257, w_31, w_260, by decide, by decide, by decide +kernel⟩ w_258 w_259 (c_Ro_clear Γ (b + 1) (b + 2) (0)  ((hu_ne (by omega)).trans ((hf1 ((b + 1)) (by omega) (by omega) (by omega)).trans p1))) d_VS_readTape_19 ((hu_ne (by omega)).trans ((hf1 (b + 1) (by omega) (by omega) (by omega)).trans p1)) rfl rfl ⟨⟨by decide, by decide⟩, ⟨by decide, by decide⟩⟩ (Nat.le_of_ble_eq_true rfl) (fun v2 M2 n2 hQ2 hn2 hd2 => ?_)
  obtain ⟨rfl, hf2, rfl, hw2_0⟩ := hQ2
  refine g_aload_n d_VS_readTape_22 rfl ?_
  refine g_get fa_VS_33 d_VS_readTape_23 ((hf2 (b) (by omega)).trans (hu_same _ _ _)) rfl ?_
  refine g_iconst d_VS_readTape_26 ?_
  refine g_icmp_eq (tgt := 40) d_VS_readTape_27 (by decide) (fun _ => ?_) (fun h3 => False.elim (by omega))
  refine g_iload_n d_VS_readTape_40 rfl ?_
  refine g_if_lt (tgt := 50) d_VS_readTape_41 (by decide) (fun h4 => ?_) (fun h4 => ?_)
  · skip
    refine g_throw (lit := 7) (text := "there is no such path") (names := ["java/lang/RuntimeException", "java/lang/Exception"]) w_261 w_42 (by decide +kernel) (by decide +kernel) (by decide) at_VS_163_167.1 at_VS_163_167.2 d_VS_readTape_50 d_VS_readTape_53 d_VS_readTape_54 d_VS_readTape_56 d_VS_readTape_59 rfl (by decide) (by decide) (by decide) (by decide) (fun n9 hn9 => ?_)
    exact ⟨rfl, by omega, fun q e0 e1 e2 e3 e4 => ((hf2 q (by omega)).trans ((hu_ne (by omega)).trans ((hf1 q (by omega) (by omega) (by omega)).trans rfl))), by omega⟩
  · skip
    refine g_iload_n d_VS_readTape_44 rfl ?_
    refine g_bipush d_VS_readTape_45 (by decide) ?_
    refine g_icmp_lt (tgt := 60) d_VS_readTape_47 (by decide) (fun h5 => ?_) (fun h5 => ?_)
    · skip
      refine g_x ?_
      refine g_vret d_VS_readTape_60 rfl ?_ (by decide) (by decide)
      exact ⟨rfl, fun q e0 e1 e2 e3 e4 => ((hf2 q (by omega)).trans ((hu_ne (by omega)).trans ((hf1 q (by omega) (by omega) (by omega)).trans rfl))), rfl, ((hf2 (dr + 2) (by omega)).trans ((hu_ne (by omega)).trans hw1_0)), ((hf2 (dr + 1) (by omega)).trans ((hu_ne (by omega)).trans hw1_1)), ((hf2 (dr) (by omega)).trans ((hu_ne (by omega)).trans hw1_2)), ((hf2 (b) (by omega)).trans (hu_same _ _ _)), hw2_0, by omega⟩
    · skip
      refine g_throw (lit := 7) (text := "there is no such path") (names := ["java/lang/RuntimeException", "java/lang/Exception"]) w_261 w_42 (by decide +kernel) (by decide +kernel) (by decide) at_VS_163_167.1 at_VS_163_167.2 d_VS_readTape_50 d_VS_readTape_53 d_VS_readTape_54 d_VS_readTape_56 d_VS_readTape_59 rfl (by decide) (by decide) (by decide) (by decide) (fun n9 hn9 => ?_)
      exact ⟨rfl, by omega, fun q e0 e1 e2 e3 e4 => ((hf2 q (by omega)).trans ((hu_ne (by omega)).trans ((hf1 q (by omega) (by omega) (by omega)).trans rfl))), by omega⟩
def k_VS_ask : MS := ("VaryStore", b_VS_ask, 5, (some .int), "ask", { frames := 7, cells := 1, slots := 6, locals := 153 }, [])
set_option maxRecDepth 100000 in
set_option maxHeartbeats 4000000 in
theorem c_VS_ask (Γ : GE) (b : Nat) (rq : Nat) (dr : Nat) (fp : Int) (tm : Int) (path : Int) (f1 : Nat → Int32) (f2 : Nat → Int32) (ln : Int) (zd : Int) (z : Int) (f3 : Nat → Int32) (w : Int) (x : Nat) (cc : Int) (zz : Int) (y : Nat) (e : Nat) (u : Int) {M : HM} {n : Nat} (pa : -2147483648 ≤ path) (pb : path < 2147483648) (hdr : b + 5 ≤ dr) (hdr2 : dr + 6 ≤ b + 17) (p0 : M (b) = some (.inr (0, [.ref (b + 1), .ref (b + 3), .ref (rq), .ref (dr), .int (iI (fp)), .int (iI (tm)), .ref (b + 17), .ref (b + 19), .ref (b + 21), .ref (b + 25), .ref (b + 29)]))) (p1 : M (b + 1) = some (.inr (2, [.ref (b + 2), .int (iI (0))]))) (p2 : M (b + 1 + 1) = some (.inl (Γ.2.2.1 0, 300, .inl (f1)))) (p3 : M (dr) = some (.inr (4, [.ref (dr + 1), .ref (dr + 3), .ref (dr + 4), .ref (dr + 5), .int (iI (ln))]))) (p4 : M (dr + 1) = some (.inr (2, [.ref (dr + 2), .int (iI (zd))]))) (p5 : M (dr + 1 + 1) = some (.inl (Γ.2.2.1 0, 300, .inl (f2)))) (p6 : M (b + 17) = some (.inr (2, [.ref (b + 18), .int (iI (z))]))) (p7 : M (b + 17 + 1) = some (.inl (Γ.2.2.1 0, 300, .inl (f3)))) (p8 : M (b + 19) = some (.inr (2, [.ref (x), .int (iI (w))]))) (p9 : M (b + 21) = some (.inr (1, [.ref (b + 22), .ref (e), .int (iI (cc))]))) (p10 : M (b + 22) = some (.inr (2, [.ref (y), .int (iI (zz))]))) (p11 : M (b + 3) = some (.inr (3, [.ref (b + 4), .int (iI (0)), .int (iI (u))]))) : CX Γ k_VS_ask y_VS_ask [.ref (b), .int (iI (path))] M (n) (fun v M' n' => n = n' ∧ (∀ q, q ≠ dr + 2 → q ≠ dr + 1 → q ≠ dr → q ≠ b → q ≠ b + 1 → q ≠ b + 17 → q ≠ b + 18 → q ≠ b + 19 → q ≠ b + 22 → q ≠ b + 21 → M' q = M q) ∧ ∃ (zs2x0 : Int) (fs2x1 : Nat → Int32), v = some (.int (iI (0))) ∧ 0 ≤ zs2x0 ∧ zs2x0 ≤ 40 ∧ M' (dr + 2) = some (.inl (Γ.2.2.1 0, 300, .inl (f2))) ∧ M' (dr + 1) = some (.inr (2, [.ref (dr + 2), .int (iI (0))])) ∧ M' (dr) = some (.inr (4, [.ref (dr + 1), .ref (dr + 3), .ref (dr + 4), .ref (dr + 5), .int (iI (0))])) ∧ M' (b) = some (.inr (0, [.ref (b + 1), .ref (b + 3), .ref (dr), .ref (rq), .int (iI ((-1))), .int (iI (tm)), .ref (b + 17), .ref (b + 19), .ref (b + 21), .ref (b + 25), .ref (b + 29)])) ∧ M' (b + 1) = some (.inr (2, [.ref (b + 2), .int (iI (0))])) ∧ M' (b + 17) = some (.inr (2, [.ref (b + 18), .int (iI (zs2x0))])) ∧ M' (b + 18) = some (.inl (Γ.2.2.1 0, 300, .inl (fs2x1))) ∧ M' (b + 19) = some (.inr (2, [.ref (x), .int (iI (0))])) ∧ M' (b + 22) = some (.inr (2, [.ref (y), .int (iI (0))])) ∧ M' (b + 21) = some (.inr (1, [.ref (b + 22), .ref (e), .int (iI (0))])) ∧ (0 ≤ path ∧ path < 16)) (fun C M' n' => C = "java/lang/IllegalArgumentException" ∧ n ≤ n' ∧ (∀ q, q ≠ dr + 2 → q ≠ dr + 1 → q ≠ dr → q ≠ b → q ≠ b + 1 → M' q = M q) ∧ (¬ (0 ≤ path ∧ path < 16))) := by
  refine CX.of (by decide) rfl rfl 3 rfl (Nat.le_of_ble_eq_true rfl) rfl ?_
  refine g_aload_n d_VS_ask_0 rfl ?_
  refine g_iload_n d_VS_ask_1 rfl ?_
  refine g_callVX1 (ν := k_VS_readTape) ⟨w_218, w_30, w_221, by decide, by decide, by decide +kernel⟩ w_220 w_1 (c_VS_readTape Γ (b) (rq) (dr) (fp) (tm) (path) (f1) (f2) (ln) (zd) (by omega) (by omega) (by omega) (by omega) p0 p1 p2 p3 p4 p5) d_VS_ask_2 p0 rfl rfl ⟨⟨by decide, by decide⟩, ⟨by decide, by decide⟩⟩ (Nat.le_of_ble_eq_true rfl) rfl (fun C9 M9 n9 h9 _ _ => h9) (fun v1 M1 n1 hQ1 hn1 hd1 => ?_)
  obtain ⟨rfl, hf1, rfl, hw1_0, hw1_1, hw1_2, hw1_3, hw1_4, hc1⟩ := hQ1
  refine g_aload_n d_VS_ask_5 rfl ?_
  refine g_get fa_VS_26 d_VS_ask_6 hw1_3 rfl ?_
  refine g_astore_n d_VS_ask_9 (by decide) rfl ?_
  refine g_aload_n d_VS_ask_10 rfl ?_
  refine g_aload_n d_VS_ask_11 rfl ?_
  refine g_get fa_VS_30 d_VS_ask_12 hw1_3 rfl ?_
  refine g_put fa_VS_26 d_VS_ask_15 hw1_3 (Nat.le_of_ble_eq_true rfl) rfl rfl rfl ?_
  refine g_aload_n d_VS_ask_18 rfl ?_
  refine g_aload_n d_VS_ask_19 rfl ?_
  refine g_put fa_VS_30 d_VS_ask_20 (hu_same _ _ _) (Nat.le_of_ble_eq_true rfl) rfl rfl rfl ?_
  refine g_aload_n d_VS_ask_23 rfl ?_
  refine g_aload_n d_VS_ask_24 rfl ?_
  refine g_get fa_VS_26 d_VS_ask_25 (hu_same _ _ _) rfl ?_
  refine g_ldcS (text := "cache-control") (lit := 0) (by decide) d_VS_ask_28 ?_
  refine g_aload_n d_VS_ask_30 rfl ?_
  refine g_get fa_VS_49 d_VS_ask_31 (hu_same _ _ _) rfl ?_
  refine g_callV3 (ν := k_VS_cutList0) ⟨w_330, w_30, w_333, by decide, by decide, by decide +kernel⟩ w_332 w_4 (c_VS_cutList0 Γ (b) (dr) (rq) ((-1)) (tm) (dr) (0) (b + 21) (z) (f3) (w) (x) (cc) (zz) (y) (e) (by first | omega | decide | (have h9 := lenLit_le 0; omega)) (by first | omega | decide | (have h9 := lenLit_le 0; omega)) (by first | omega | decide | (have h9 := lenLit_le 0; omega)) (hu_same _ _ _) ((hu_ne (by omega)).trans ((hu_ne (by omega)).trans ((hf1 (b + 17) (by omega) (by omega) (by omega) (by omega) (by omega)).trans p6))) ((hu_ne (by omega)).trans ((hu_ne (by omega)).trans ((hf1 (b + 17 + 1) (by omega) (by omega) (by omega) (by omega) (by omega)).trans p7))) ((hu_ne (by omega)).trans ((hu_ne (by omega)).trans ((hf1 (b + 19) (by omega) (by omega) (by omega) (by omega) (by omega)).trans p8))) ((hu_ne (by omega)).trans ((hu_ne (by omega)).trans hw1_2)) ((hu_ne (by omega)).trans ((hu_ne (by omega)).trans ((hf1 ((b + 21)) (by omega) (by omega) (by omega) (by omega) (by omega)).trans p9))) ((hu_ne (by omega)).trans ((hu_ne (by omega)).trans ((hf1 ((b + 21) + 1) (by omega) (by omega) (by omega) (by omega) (by omega)).trans p10)))) d_VS_ask_34 (hu_same _ _ _) rfl rfl ⟨⟨by decide, by decide⟩, ⟨by decide, by decide⟩⟩ (Nat.le_of_ble_eq_true rfl) (fun v2 M2 n2 hQ2 hn2 hd2 => ?_)
  obtain ⟨rfl, hf2, zs2x0, fs2x1, rfl, hb2_zs2x0_0, hb2_zs2x0_1, hw2_0, hw2_1, hw2_2, hw2_3, hw2_4⟩ := hQ2
  refine g_pop d_VS_ask_37 rfl ?_
  refine g_aload_n d_VS_ask_38 rfl ?_
  refine g_get fa_VS_19 d_VS_ask_39 ((hf2 (b) (by omega) (by omega) (by omega) (by omega) (by omega)).trans (hu_same _ _ _)) rfl ?_
  refine g_aload_n d_VS_ask_42 rfl ?_
  refine g_iload_n d_VS_ask_43 rfl ?_
  refine g_callV1 (ν := k_VS_theOne0) ⟨w_428, w_30, w_431, by decide, by decide, by decide +kernel⟩ w_430 w_7 (c_VS_theOne0 Γ (b) (dr) (rq) ((-1)) (tm) (path) (u)  ((hf2 (b) (by omega) (by omega) (by omega) (by omega) (by omega)).trans (hu_same _ _ _)) ((hf2 (b + 3) (by omega) (by omega) (by omega) (by omega) (by omega)).trans ((hu_ne (by omega)).trans ((hu_ne (by omega)).trans ((hf1 (b + 3) (by omega) (by omega) (by omega) (by omega) (by omega)).trans p11))))) d_VS_ask_44 ((hf2 (b) (by omega) (by omega) (by omega) (by omega) (by omega)).trans (hu_same _ _ _)) rfl rfl ⟨⟨by decide, by decide⟩, ⟨by decide, by decide⟩⟩ (Nat.le_of_ble_eq_true rfl) (fun v3 M3 n3 hQ3 hn3 hd3 => ?_)
  obtain ⟨rfl, hf3, rfl⟩ := hQ3
  refine g_callV1 (ν := k_Sh_at0) ⟨w_194, w_32, w_197, by decide, by decide, by decide +kernel⟩ w_195 w_196 (c_Sh_at0 Γ (b + 3) ((-1)) (u) (by omega) (by omega) ((hf3 ((b + 3)) ).trans ((hf2 ((b + 3)) (by omega) (by omega) (by omega) (by omega) (by omega)).trans ((hu_ne (by omega)).trans ((hu_ne (by omega)).trans ((hf1 ((b + 3)) (by omega) (by omega) (by omega) (by omega) (by omega)).trans p11)))))) d_VS_ask_47 ((hf3 (b + 3) ).trans ((hf2 (b + 3) (by omega) (by omega) (by omega) (by omega) (by omega)).trans ((hu_ne (by omega)).trans ((hu_ne (by omega)).trans ((hf1 (b + 3) (by omega) (by omega) (by omega) (by omega) (by omega)).trans p11))))) rfl rfl ⟨⟨by decide, by decide⟩, ⟨by decide, by decide⟩⟩ (Nat.le_of_ble_eq_true rfl) (fun v4 M4 n4 hQ4 hn4 hd4 => ?_)
  obtain ⟨rfl, hf4, rfl⟩ := hQ4
  refine g_astore_nN d_VS_ask_50 (by decide) rfl ?_
  refine g_aload_nN d_VS_ask_51 rfl ?_
  refine g_ifnonnullN d_VS_ask_52 ?_
  refine g_iconst d_VS_ask_55 ?_
  refine g_goto (tgt := 64) d_VS_ask_56 (by decide) ?_
  refine g_istore d_VS_ask_64 (by decide) rfl ?_
  refine g_iload d_VS_ask_66 rfl ?_
  refine g_iconst d_VS_ask_68 ?_
  refine g_icmp_eq (tgt := 78) d_VS_ask_69 (by decide) (fun h5 => False.elim (by omega)) (fun _ => ?_)
  refine g_iload d_VS_ask_72 rfl ?_
  refine g_iconst d_VS_ask_74 ?_
  refine g_icmp_ne (tgt := 89) d_VS_ask_75 (by decide) (fun _ => ?_) (fun h6 => False.elim (by omega))
  refine g_aload_n d_VS_ask_89 rfl ?_
  refine g_get fa_VS_49 d_VS_ask_90 ((hf4 (b) ).trans ((hf3 (b) ).trans ((hf2 (b) (by omega) (by omega) (by omega) (by omega) (by omega)).trans (hu_same _ _ _)))) rfl ?_
  refine g_ldcS (text := "only-if-cached") (lit := 1) (by decide) d_VS_ask_93 ?_
  refine g_callV1 (ν := k_It_has0) ⟨w_486, w_34, w_489, by decide, by decide, by decide +kernel⟩ w_487 w_488 (c_It_has0 Γ (b + 21) (1) (b + 22) (e)  ((hf4 ((b + 21)) ).trans ((hf3 ((b + 21)) ).trans hw2_4))) d_VS_ask_95 ((hf4 (b + 21) ).trans ((hf3 (b + 21) ).trans hw2_4)) rfl rfl ⟨⟨by decide, by decide⟩, ⟨by decide, by decide⟩⟩ (Nat.le_of_ble_eq_true rfl) (fun v7 M7 n7 hQ7 hn7 hd7 => ?_)
  obtain ⟨rfl, hf7, rfl⟩ := hQ7
  refine g_if_eq (tgt := 105) d_VS_ask_98 (by decide) (fun _ => ?_) (fun h8 => False.elim (by omega))
  refine g_iload d_VS_ask_105 rfl ?_
  refine g_x ?_
  refine g_iret d_VS_ask_107 rfl ?_ (by decide) (by decide)
  exact ⟨rfl, fun q e0 e1 e2 e3 e4 e5 e6 e7 e8 e9 => ((hf7 q ).trans ((hf4 q ).trans ((hf3 q ).trans ((hf2 q (by omega) (by omega) (by omega) (by omega) (by omega)).trans ((hu_ne (by omega)).trans ((hu_ne (by omega)).trans ((hf1 q (by omega) (by omega) (by omega) (by omega) (by omega)).trans rfl))))))), zs2x0, fs2x1, rfl, hb2_zs2x0_0, hb2_zs2x0_1, ((hf7 (dr + 2) ).trans ((hf4 (dr + 2) ).trans ((hf3 (dr + 2) ).trans ((hf2 (dr + 2) (by omega) (by omega) (by omega) (by omega) (by omega)).trans ((hu_ne (by omega)).trans ((hu_ne (by omega)).trans hw1_0)))))), ((hf7 (dr + 1) ).trans ((hf4 (dr + 1) ).trans ((hf3 (dr + 1) ).trans ((hf2 (dr + 1) (by omega) (by omega) (by omega) (by omega) (by omega)).trans ((hu_ne (by omega)).trans ((hu_ne (by omega)).trans hw1_1)))))), ((hf7 (dr) ).trans ((hf4 (dr) ).trans ((hf3 (dr) ).trans ((hf2 (dr) (by omega) (by omega) (by omega) (by omega) (by omega)).trans ((hu_ne (by omega)).trans ((hu_ne (by omega)).trans hw1_2)))))), ((hf7 (b) ).trans ((hf4 (b) ).trans ((hf3 (b) ).trans ((hf2 (b) (by omega) (by omega) (by omega) (by omega) (by omega)).trans (hu_same _ _ _))))), ((hf7 (b + 1) ).trans ((hf4 (b + 1) ).trans ((hf3 (b + 1) ).trans ((hf2 (b + 1) (by omega) (by omega) (by omega) (by omega) (by omega)).trans ((hu_ne (by omega)).trans ((hu_ne (by omega)).trans hw1_4)))))), ((hf7 (b + 17) ).trans ((hf4 (b + 17) ).trans ((hf3 (b + 17) ).trans hw2_0))), ((hf7 (b + 18) ).trans ((hf4 (b + 18) ).trans ((hf3 (b + 18) ).trans hw2_1))), ((hf7 (b + 19) ).trans ((hf4 (b + 19) ).trans ((hf3 (b + 19) ).trans hw2_2))), ((hf7 (b + 22) ).trans ((hf4 (b + 22) ).trans ((hf3 (b + 22) ).trans hw2_3))), ((hf7 (b + 21) ).trans ((hf4 (b + 21) ).trans ((hf3 (b + 21) ).trans hw2_4))), by omega⟩
def k_VS_again : MS := ("VaryStore", b_VS_again, 4, (some .boolean), "again", { frames := 7, cells := 1, slots := 6, locals := 105 }, [])
set_option maxRecDepth 100000 in
set_option maxHeartbeats 4000000 in
theorem c_VS_again (Γ : GE) (b : Nat) (rq : Nat) (dr : Nat) (fp : Int) (tm : Int) (path : Int) (f1 : Nat → Int32) (f2 : Nat → Int32) (ln : Int) (zd : Int) (u : Int) {M : HM} {n : Nat} (pa : -2147483648 ≤ path) (pb : path < 2147483648) (hdr : b + 5 ≤ dr) (hdr2 : dr + 6 ≤ b + 17) (p0 : M (b) = some (.inr (0, [.ref (b + 1), .ref (b + 3), .ref (rq), .ref (dr), .int (iI (fp)), .int (iI (tm)), .ref (b + 17), .ref (b + 19), .ref (b + 21), .ref (b + 25), .ref (b + 29)]))) (p1 : M (b + 1) = some (.inr (2, [.ref (b + 2), .int (iI (0))]))) (p2 : M (b + 1 + 1) = some (.inl (Γ.2.2.1 0, 300, .inl (f1)))) (p3 : M (dr) = some (.inr (4, [.ref (dr + 1), .ref (dr + 3), .ref (dr + 4), .ref (dr + 5), .int (iI (ln))]))) (p4 : M (dr + 1) = some (.inr (2, [.ref (dr + 2), .int (iI (zd))]))) (p5 : M (dr + 1 + 1) = some (.inl (Γ.2.2.1 0, 300, .inl (f2)))) (p6 : M (b + 3) = some (.inr (3, [.ref (b + 4), .int (iI (0)), .int (iI (u))]))) : CX Γ k_VS_again y_VS_again [.ref (b), .int (iI (path))] M (n) (fun v M' n' => n = n' ∧ (∀ q, q ≠ dr + 2 → q ≠ dr + 1 → q ≠ dr → q ≠ b → q ≠ b + 1 → M' q = M q) ∧ v = some (.int (iI (0))) ∧ M' (dr + 2) = some (.inl (Γ.2.2.1 0, 300, .inl (f2))) ∧ M' (dr + 1) = some (.inr (2, [.ref (dr + 2), .int (iI (0))])) ∧ M' (dr) = some (.inr (4, [.ref (dr + 1), .ref (dr + 3), .ref (dr + 4), .ref (dr + 5), .int (iI (0))])) ∧ M' (b) = some (.inr (0, [.ref (b + 1), .ref (b + 3), .ref (rq), .ref (dr), .int (iI ((-1))), .int (iI (tm)), .ref (b + 17), .ref (b + 19), .ref (b + 21), .ref (b + 25), .ref (b + 29)])) ∧ M' (b + 1) = some (.inr (2, [.ref (b + 2), .int (iI (0))])) ∧ (0 ≤ path ∧ path < 16)) (fun C M' n' => C = "java/lang/IllegalArgumentException" ∧ n ≤ n' ∧ (∀ q, q ≠ dr + 2 → q ≠ dr + 1 → q ≠ dr → q ≠ b → q ≠ b + 1 → M' q = M q) ∧ (¬ (0 ≤ path ∧ path < 16))) := by
  refine CX.of (by decide) rfl rfl 2 rfl (Nat.le_of_ble_eq_true rfl) rfl ?_
  refine g_aload_n d_VS_again_0 rfl ?_
  refine g_iload_n d_VS_again_1 rfl ?_
  refine g_callVX1 (ν := k_VS_readTape) ⟨w_218, w_30, w_221, by decide, by decide, by decide +kernel⟩ w_220 w_1 (c_VS_readTape Γ (b) (rq) (dr) (fp) (tm) (path) (f1) (f2) (ln) (zd) (by omega) (by omega) (by omega) (by omega) p0 p1 p2 p3 p4 p5) d_VS_again_2 p0 rfl rfl ⟨⟨by decide, by decide⟩, ⟨by decide, by decide⟩⟩ (Nat.le_of_ble_eq_true rfl) rfl (fun C9 M9 n9 h9 _ _ => h9) (fun v1 M1 n1 hQ1 hn1 hd1 => ?_)
  obtain ⟨rfl, hf1, rfl, hw1_0, hw1_1, hw1_2, hw1_3, hw1_4, hc1⟩ := hQ1
  refine g_aload_n d_VS_again_5 rfl ?_
  refine g_iload_n d_VS_again_6 rfl ?_
  refine g_callV1 (ν := k_VS_theOne0) ⟨w_428, w_30, w_431, by decide, by decide, by decide +kernel⟩ w_430 w_7 (c_VS_theOne0 Γ (b) (rq) (dr) ((-1)) (tm) (path) (u)  hw1_3 ((hf1 (b + 3) (by omega) (by omega) (by omega) (by omega) (by omega)).trans p6)) d_VS_again_7 hw1_3 rfl rfl ⟨⟨by decide, by decide⟩, ⟨by decide, by decide⟩⟩ (Nat.le_of_ble_eq_true rfl) (fun v2 M2 n2 hQ2 hn2 hd2 => ?_)
  obtain ⟨rfl, hf2, rfl⟩ := hQ2
  refine g_istore_n d_VS_again_10 (by decide) rfl ?_
  refine g_aload_n d_VS_again_11 rfl ?_
  refine g_get fa_VS_19 d_VS_again_12 ((hf2 (b) ).trans hw1_3) rfl ?_
  refine g_iload_n d_VS_again_15 rfl ?_
  refine g_callV1 (ν := k_Sh_at0) ⟨w_194, w_32, w_197, by decide, by decide, by decide +kernel⟩ w_195 w_196 (c_Sh_at0 Γ (b + 3) ((-1)) (u) (by omega) (by omega) ((hf2 ((b + 3)) ).trans ((hf1 ((b + 3)) (by omega) (by omega) (by omega) (by omega) (by omega)).trans p6))) d_VS_again_16 ((hf2 (b + 3) ).trans ((hf1 (b + 3) (by omega) (by omega) (by omega) (by omega) (by omega)).trans p6)) rfl rfl ⟨⟨by decide, by decide⟩, ⟨by decide, by decide⟩⟩ (Nat.le_of_ble_eq_true rfl) (fun v3 M3 n3 hQ3 hn3 hd3 => ?_)
  obtain ⟨rfl, hf3, rfl⟩ := hQ3
  refine g_astore_nN d_VS_again_19 (by decide) rfl ?_
  refine g_aload_nN d_VS_again_20 rfl ?_
  refine g_ifnonnullN d_VS_again_21 ?_
  refine g_iconst d_VS_again_24 ?_
  refine g_x ?_
  refine g_zret (ty := .boolean) (by first | rfl | decide) d_VS_again_25 rfl ?_ (by decide) (by decide)
  exact ⟨rfl, fun q e0 e1 e2 e3 e4 => ((hf3 q ).trans ((hf2 q ).trans ((hf1 q (by omega) (by omega) (by omega) (by omega) (by omega)).trans rfl))), rfl, ((hf3 (dr + 2) ).trans ((hf2 (dr + 2) ).trans hw1_0)), ((hf3 (dr + 1) ).trans ((hf2 (dr + 1) ).trans hw1_1)), ((hf3 (dr) ).trans ((hf2 (dr) ).trans hw1_2)), ((hf3 (b) ).trans ((hf2 (b) ).trans hw1_3)), ((hf3 (b + 1) ).trans ((hf2 (b + 1) ).trans hw1_4)), by omega⟩
def k_VS_pass : MS := ("VaryStore", b_VS_pass, 2, (some .int), "pass", { frames := 6, cells := 1, slots := 6, locals := 82 }, [])
set_option maxRecDepth 100000 in
set_option maxHeartbeats 4000000 in
theorem c_VS_pass (Γ : GE) (b : Nat) (rq : Nat) (dr : Nat) (fp : Int) (k : Int) {M : HM} {n : Nat} (ka : -2147483648 ≤ k) (kb : k < 2147483648) (p0 : M (b) = some (.inr (0, [.ref (b + 1), .ref (b + 3), .ref (rq), .ref (dr), .int (iI (fp)), .int (iI (0)), .ref (b + 17), .ref (b + 19), .ref (b + 21), .ref (b + 25), .ref (b + 29)]))) : CX Γ k_VS_pass y_VS_pass [.ref (b), .int (iI (k))] M (n) (fun v M' n' => n = n' ∧ (∀ q, q ≠ b → M' q = M q) ∧ v = some (.int (iI ((0 + k)))) ∧ M' (b) = some (.inr (0, [.ref (b + 1), .ref (b + 3), .ref (rq), .ref (dr), .int (iI (fp)), .int (iI ((0 + k))), .ref (b + 17), .ref (b + 19), .ref (b + 21), .ref (b + 25), .ref (b + 29)])) ∧ (1 ≤ k ∧ k ≤ 100000)) (fun C M' n' => C = "java/lang/IllegalArgumentException" ∧ n ≤ n' ∧ (∀ q, M' q = M q) ∧ (¬ (1 ≤ k ∧ k ≤ 100000))) := by
  refine CX.of (by decide) rfl rfl 0 rfl (Nat.le_of_ble_eq_true rfl) rfl ?_
  refine g_iload_n d_VS_pass_0 rfl ?_
  refine g_iconst d_VS_pass_1 ?_
  refine g_icmp_lt (tgt := 22) d_VS_pass_2 (by decide) (fun h1 => ?_) (fun h1 => ?_)
  · skip
    refine g_throw (lit := 3) (text := "so many seconds can not go by") (names := ["java/lang/RuntimeException", "java/lang/Exception"]) w_261 w_42 (by decide +kernel) (by decide +kernel) (by decide) at_VS_163_167.1 at_VS_163_167.2 d_VS_pass_22 d_VS_pass_25 d_VS_pass_26 d_VS_pass_28 d_VS_pass_31 rfl (by decide) (by decide) (by decide) (by decide) (fun n9 hn9 => ?_)
    exact ⟨rfl, by omega, fun q  => rfl, by omega⟩
  · skip
    refine g_iload_n d_VS_pass_5 rfl ?_
    refine g_ldcI (z := 100000) w_664 rfl d_VS_pass_6 ?_
    refine g_icmp_gt (tgt := 22) d_VS_pass_8 (by decide) (fun h2 => ?_) (fun h2 => ?_)
    · skip
      refine g_throw (lit := 3) (text := "so many seconds can not go by") (names := ["java/lang/RuntimeException", "java/lang/Exception"]) w_261 w_42 (by decide +kernel) (by decide +kernel) (by decide) at_VS_163_167.1 at_VS_163_167.2 d_VS_pass_22 d_VS_pass_25 d_VS_pass_26 d_VS_pass_28 d_VS_pass_31 rfl (by decide) (by decide) (by decide) (by decide) (fun n9 hn9 => ?_)
      exact ⟨rfl, by omega, fun q  => rfl, by omega⟩
    · skip
      refine g_aload_n d_VS_pass_11 rfl ?_
      refine g_get fa_VS_37 d_VS_pass_12 p0 rfl ?_
      refine g_iload_n d_VS_pass_15 rfl ?_
      refine g_iadd d_VS_pass_16 ?_
      refine g_ldcI (z := 1000000000) w_665 rfl d_VS_pass_17 ?_
      refine g_icmp_le (tgt := 32) d_VS_pass_19 (by decide) (fun h3 => ?_) (fun h3 => False.elim (by omega))
      refine g_aload_n d_VS_pass_32 rfl ?_
      refine g_dup d_VS_pass_33 rfl ?_
      refine g_get fa_VS_37 d_VS_pass_34 p0 rfl ?_
      refine g_iload_n d_VS_pass_37 rfl ?_
      refine g_iadd d_VS_pass_38 ?_
      refine g_put fa_VS_37 d_VS_pass_39 p0 (Nat.le_of_ble_eq_true rfl) rfl rfl rfl ?_
      refine g_aload_n d_VS_pass_42 rfl ?_
      refine g_get fa_VS_37 d_VS_pass_43 (hu_same _ _ _) rfl ?_
      refine g_x ?_
      refine g_iret d_VS_pass_46 rfl ?_ (by decide) (by decide)
      exact ⟨rfl, fun q e0 => ((hu_ne (by omega)).trans rfl), rfl, (hu_same _ _ _), by omega⟩
end
section
theorem d_Te_copy_0 : decode b_Te_copy 0 = .ok (.aload_n 0, 1) := by decide +kernel
theorem d_Te_copy_1 : decode b_Te_copy 1 = .ok (.getfield 12, 3) := by decide +kernel
theorem d_Te_copy_4 : decode b_Te_copy 4 = .ok (.aload_n 1, 1) := by decide +kernel
theorem d_Te_copy_5 : decode b_Te_copy 5 = .ok (.getfield 12, 3) := by decide +kernel
theorem d_Te_copy_8 : decode b_Te_copy 8 = .ok (.invokevirtual 32, 3) := by decide +kernel
theorem d_Te_copy_11 : decode b_Te_copy 11 = .ok (.aload_n 1, 1) := by decide +kernel
theorem d_Te_copy_12 : decode b_Te_copy 12 = .ok (.getfield 18, 3) := by decide +kernel
theorem d_Te_copy_15 : decode b_Te_copy 15 = .ok (.iconst 0, 1) := by decide +kernel
theorem d_Te_copy_16 : decode b_Te_copy 16 = .ok (.aload_n 0, 1) := by decide +kernel
theorem d_Te_copy_17 : decode b_Te_copy 17 = .ok (.getfield 18, 3) := by decide +kernel
theorem d_Te_copy_20 : decode b_Te_copy 20 = .ok (.iconst 0, 1) := by decide +kernel
theorem d_Te_copy_21 : decode b_Te_copy 21 = .ok (.aload_n 1, 1) := by decide +kernel
theorem d_Te_copy_22 : decode b_Te_copy 22 = .ok (.getfield 28, 3) := by decide +kernel
theorem d_Te_copy_25 : decode b_Te_copy 25 = .ok (.invokestatic 36, 3) := by decide +kernel
theorem d_Te_copy_28 : decode b_Te_copy 28 = .ok (.aload_n 1, 1) := by decide +kernel
theorem d_Te_copy_29 : decode b_Te_copy 29 = .ok (.getfield 22, 3) := by decide +kernel
theorem d_Te_copy_32 : decode b_Te_copy 32 = .ok (.iconst 0, 1) := by decide +kernel
theorem d_Te_copy_33 : decode b_Te_copy 33 = .ok (.aload_n 0, 1) := by decide +kernel
theorem d_Te_copy_34 : decode b_Te_copy 34 = .ok (.getfield 22, 3) := by decide +kernel
theorem d_Te_copy_37 : decode b_Te_copy 37 = .ok (.iconst 0, 1) := by decide +kernel
theorem d_Te_copy_38 : decode b_Te_copy 38 = .ok (.aload_n 1, 1) := by decide +kernel
theorem d_Te_copy_39 : decode b_Te_copy 39 = .ok (.getfield 28, 3) := by decide +kernel
theorem d_Te_copy_42 : decode b_Te_copy 42 = .ok (.invokestatic 36, 3) := by decide +kernel
theorem d_Te_copy_45 : decode b_Te_copy 45 = .ok (.aload_n 1, 1) := by decide +kernel
theorem d_Te_copy_46 : decode b_Te_copy 46 = .ok (.getfield 25, 3) := by decide +kernel
theorem d_Te_copy_49 : decode b_Te_copy 49 = .ok (.iconst 0, 1) := by decide +kernel
theorem d_Te_copy_50 : decode b_Te_copy 50 = .ok (.aload_n 0, 1) := by decide +kernel
theorem d_Te_copy_51 : decode b_Te_copy 51 = .ok (.getfield 25, 3) := by decide +kernel
theorem d_Te_copy_54 : decode b_Te_copy 54 = .ok (.iconst 0, 1) := by decide +kernel
theorem d_Te_copy_55 : decode b_Te_copy 55 = .ok (.aload_n 1, 1) := by decide +kernel
theorem d_Te_copy_56 : decode b_Te_copy 56 = .ok (.getfield 28, 3) := by decide +kernel
theorem d_Te_copy_59 : decode b_Te_copy 59 = .ok (.invokestatic 36, 3) := by decide +kernel
theorem d_Te_copy_62 : decode b_Te_copy 62 = .ok (.aload_n 0, 1) := by decide +kernel
theorem d_Te_copy_63 : decode b_Te_copy 63 = .ok (.aload_n 1, 1) := by decide +kernel
theorem d_Te_copy_64 : decode b_Te_copy 64 = .ok (.getfield 28, 3) := by decide +kernel
theorem d_Te_copy_67 : decode b_Te_copy 67 = .ok (.putfield 28, 3) := by decide +kernel
theorem d_Te_copy_70 : decode b_Te_copy 70 = .ok (.return_, 1) := by decide +kernel
theorem d_Ro_makeSmall_0 : decode b_Ro_makeSmall 0 = .ok (.iconst 0, 1) := by decide +kernel
theorem d_Ro_makeSmall_1 : decode b_Ro_makeSmall 1 = .ok (.iload_n 1, 1) := by decide +kernel
theorem d_Ro_makeSmall_2 : decode b_Ro_makeSmall 2 = .ok (.invokestatic 45, 3) := by decide +kernel
theorem d_Ro_makeSmall_5 : decode b_Ro_makeSmall 5 = .ok (.istore_n 3, 1) := by decide +kernel
theorem d_Ro_makeSmall_6 : decode b_Ro_makeSmall 6 = .ok (.iload_n 3, 1) := by decide +kernel
theorem d_Ro_makeSmall_7 : decode b_Ro_makeSmall 7 = .ok (.iload_n 2, 1) := by decide +kernel
theorem d_Ro_makeSmall_8 : decode b_Ro_makeSmall 8 = .ok (.if_icmp .ge 32, 3) := by decide +kernel
theorem d_Ro_makeSmall_40 : decode b_Ro_makeSmall 40 = .ok (.return_, 1) := by decide +kernel
theorem d_It_makeSmall_0 : decode b_It_makeSmall 0 = .ok (.aload_n 0, 1) := by decide +kernel
theorem d_It_makeSmall_1 : decode b_It_makeSmall 1 = .ok (.getfield 12, 3) := by decide +kernel
theorem d_It_makeSmall_4 : decode b_It_makeSmall 4 = .ok (.iconst 0, 1) := by decide +kernel
theorem d_It_makeSmall_5 : decode b_It_makeSmall 5 = .ok (.aload_n 0, 1) := by decide +kernel
theorem d_It_makeSmall_6 : decode b_It_makeSmall 6 = .ok (.getfield 12, 3) := by decide +kernel
theorem d_It_makeSmall_9 : decode b_It_makeSmall 9 = .ok (.getfield 29, 3) := by decide +kernel
theorem d_It_makeSmall_12 : decode b_It_makeSmall 12 = .ok (.invokevirtual 61, 3) := by decide +kernel
theorem d_It_makeSmall_15 : decode b_It_makeSmall 15 = .ok (.return_, 1) := by decide +kernel
theorem d_Sh_spare_0 : decode b_Sh_spare 0 = .ok (.aload_n 0, 1) := by decide +kernel
theorem d_Sh_spare_1 : decode b_Sh_spare 1 = .ok (.getfield 11, 3) := by decide +kernel
theorem d_Sh_spare_4 : decode b_Sh_spare 4 = .ok (.bipush 24, 2) := by decide +kernel
theorem d_Sh_spare_6 : decode b_Sh_spare 6 = .ok (.aaload, 1) := by decide +kernel
theorem d_Sh_spare_7 : decode b_Sh_spare 7 = .ok (.astore_n 1, 1) := by decide +kernel
theorem d_Sh_spare_8 : decode b_Sh_spare 8 = .ok (.aload_n 1, 1) := by decide +kernel
theorem d_Sh_spare_9 : decode b_Sh_spare 9 = .ok (.ifnonnull 19, 3) := by decide +kernel
theorem d_Sh_spare_12 : decode b_Sh_spare 12 = .ok (.new 9, 3) := by decide +kernel
theorem d_Sh_spare_15 : decode b_Sh_spare 15 = .ok (.dup, 1) := by decide +kernel
theorem d_Sh_spare_16 : decode b_Sh_spare 16 = .ok (.invokespecial 24, 3) := by decide +kernel
theorem d_Sh_spare_19 : decode b_Sh_spare 19 = .ok (.astore_n 1, 1) := by decide +kernel
theorem d_Sh_spare_20 : decode b_Sh_spare 20 = .ok (.aload_n 0, 1) := by decide +kernel
theorem d_Sh_spare_21 : decode b_Sh_spare 21 = .ok (.getfield 11, 3) := by decide +kernel
theorem d_Sh_spare_24 : decode b_Sh_spare 24 = .ok (.bipush 24, 2) := by decide +kernel
theorem d_Sh_spare_26 : decode b_Sh_spare 26 = .ok (.aload_n 1, 1) := by decide +kernel
theorem d_Sh_spare_27 : decode b_Sh_spare 27 = .ok (.aastore, 1) := by decide +kernel
theorem d_Sh_spare_28 : decode b_Sh_spare 28 = .ok (.aload_n 1, 1) := by decide +kernel
theorem d_Sh_spare_29 : decode b_Sh_spare 29 = .ok (.areturn, 1) := by decide +kernel
theorem d_Th_obey_0 : decode b_Th_obey 0 = .ok (.aload_n 0, 1) := by decide +kernel
theorem d_Th_obey_1 : decode b_Th_obey 1 = .ok (.aload_n 1, 1) := by decide +kernel
theorem d_Th_obey_2 : decode b_Th_obey 2 = .ok (.ldc 64, 2) := by decide +kernel
theorem d_Th_obey_4 : decode b_Th_obey 4 = .ok (.invokevirtual 66, 3) := by decide +kernel
theorem d_Th_obey_7 : decode b_Th_obey 7 = .ok (.putfield 36, 3) := by decide +kernel
theorem d_Th_obey_10 : decode b_Th_obey 10 = .ok (.aload_n 0, 1) := by decide +kernel
theorem d_Th_obey_11 : decode b_Th_obey 11 = .ok (.aload_n 1, 1) := by decide +kernel
theorem d_Th_obey_12 : decode b_Th_obey 12 = .ok (.ldc 70, 2) := by decide +kernel
theorem d_Th_obey_14 : decode b_Th_obey 14 = .ok (.invokevirtual 66, 3) := by decide +kernel
theorem d_Th_obey_17 : decode b_Th_obey 17 = .ok (.putfield 39, 3) := by decide +kernel
theorem d_Th_obey_20 : decode b_Th_obey 20 = .ok (.aload_n 0, 1) := by decide +kernel
theorem d_Th_obey_21 : decode b_Th_obey 21 = .ok (.aload_n 1, 1) := by decide +kernel
theorem d_Th_obey_22 : decode b_Th_obey 22 = .ok (.ldc 72, 2) := by decide +kernel
theorem d_Th_obey_24 : decode b_Th_obey 24 = .ok (.invokevirtual 74, 3) := by decide +kernel
theorem d_Th_obey_27 : decode b_Th_obey 27 = .ok (.ifCond .ne 12, 3) := by decide +kernel
theorem d_Th_obey_30 : decode b_Th_obey 30 = .ok (.aload_n 1, 1) := by decide +kernel
theorem d_Th_obey_31 : decode b_Th_obey 31 = .ok (.ldc 78, 2) := by decide +kernel
theorem d_Th_obey_33 : decode b_Th_obey 33 = .ok (.invokevirtual 74, 3) := by decide +kernel
theorem d_Th_obey_36 : decode b_Th_obey 36 = .ok (.ifCond .eq 7, 3) := by decide +kernel
theorem d_Th_obey_43 : decode b_Th_obey 43 = .ok (.iconst 0, 1) := by decide +kernel
theorem d_Th_obey_44 : decode b_Th_obey 44 = .ok (.putfield 42, 3) := by decide +kernel
theorem d_Th_obey_47 : decode b_Th_obey 47 = .ok (.aload_n 0, 1) := by decide +kernel
theorem d_Th_obey_48 : decode b_Th_obey 48 = .ok (.aload_n 1, 1) := by decide +kernel
theorem d_Th_obey_49 : decode b_Th_obey 49 = .ok (.ldc 80, 2) := by decide +kernel
theorem d_Th_obey_51 : decode b_Th_obey 51 = .ok (.invokevirtual 74, 3) := by decide +kernel
theorem d_Th_obey_54 : decode b_Th_obey 54 = .ok (.putfield 46, 3) := by decide +kernel
theorem d_Th_obey_57 : decode b_Th_obey 57 = .ok (.aload_n 0, 1) := by decide +kernel
theorem d_Th_obey_58 : decode b_Th_obey 58 = .ok (.aload_n 0, 1) := by decide +kernel
theorem d_Th_obey_59 : decode b_Th_obey 59 = .ok (.getfield 46, 3) := by decide +kernel
theorem d_Th_obey_62 : decode b_Th_obey 62 = .ok (.ifCond .ne 30, 3) := by decide +kernel
theorem d_Th_obey_65 : decode b_Th_obey 65 = .ok (.aload_n 0, 1) := by decide +kernel
theorem d_Th_obey_66 : decode b_Th_obey 66 = .ok (.getfield 36, 3) := by decide +kernel
theorem d_Th_obey_69 : decode b_Th_obey 69 = .ok (.bipush (-2), 2) := by decide +kernel
theorem d_Th_obey_71 : decode b_Th_obey 71 = .ok (.if_icmp .ne 21, 3) := by decide +kernel
theorem d_Th_obey_74 : decode b_Th_obey 74 = .ok (.aload_n 1, 1) := by decide +kernel
theorem d_Th_obey_75 : decode b_Th_obey 75 = .ok (.ldc 82, 2) := by decide +kernel
theorem d_Th_obey_77 : decode b_Th_obey 77 = .ok (.invokevirtual 74, 3) := by decide +kernel
theorem d_Th_obey_80 : decode b_Th_obey 80 = .ok (.ifCond .ne 12, 3) := by decide +kernel
theorem d_Th_obey_83 : decode b_Th_obey 83 = .ok (.aload_n 1, 1) := by decide +kernel
theorem d_Th_obey_84 : decode b_Th_obey 84 = .ok (.ldc 84, 2) := by decide +kernel
theorem d_Th_obey_86 : decode b_Th_obey 86 = .ok (.invokevirtual 74, 3) := by decide +kernel
theorem d_Th_obey_89 : decode b_Th_obey 89 = .ok (.ifCond .eq 7, 3) := by decide +kernel
theorem d_Th_obey_96 : decode b_Th_obey 96 = .ok (.iconst 0, 1) := by decide +kernel
theorem d_Th_obey_97 : decode b_Th_obey 97 = .ok (.putfield 49, 3) := by decide +kernel
theorem d_Th_obey_100 : decode b_Th_obey 100 = .ok (.return_, 1) := by decide +kernel
theorem d_VS_describe_0 : decode b_VS_describe 0 = .ok (.aload_n 1, 1) := by decide +kernel
theorem d_VS_describe_1 : decode b_VS_describe 1 = .ok (.iload_n 2, 1) := by decide +kernel
theorem d_VS_describe_2 : decode b_VS_describe 2 = .ok (.putfield 158, 3) := by decide +kernel
theorem d_VS_describe_5 : decode b_VS_describe 5 = .ok (.aload_n 1, 1) := by decide +kernel
theorem d_VS_describe_6 : decode b_VS_describe 6 = .ok (.getfield 226, 3) := by decide +kernel
theorem d_VS_describe_9 : decode b_VS_describe 9 = .ok (.aload_n 0, 1) := by decide +kernel
theorem d_VS_describe_10 : decode b_VS_describe 10 = .ok (.getfield 26, 3) := by decide +kernel
theorem d_VS_describe_13 : decode b_VS_describe 13 = .ok (.invokevirtual 227, 3) := by decide +kernel
theorem d_VS_describe_16 : decode b_VS_describe 16 = .ok (.aload_n 0, 1) := by decide +kernel
theorem d_VS_describe_17 : decode b_VS_describe 17 = .ok (.aload_n 0, 1) := by decide +kernel
theorem d_VS_describe_18 : decode b_VS_describe 18 = .ok (.getfield 30, 3) := by decide +kernel
theorem d_VS_describe_21 : decode b_VS_describe 21 = .ok (.ldc 143, 2) := by decide +kernel
theorem d_VS_describe_23 : decode b_VS_describe 23 = .ok (.invokevirtual 145, 3) := by decide +kernel
theorem d_VS_describe_26 : decode b_VS_describe 26 = .ok (.pop, 1) := by decide +kernel
theorem d_VS_describe_27 : decode b_VS_describe 27 = .ok (.aload_n 1, 1) := by decide +kernel
theorem d_VS_describe_28 : decode b_VS_describe 28 = .ok (.getfield 149, 3) := by decide +kernel
theorem d_VS_describe_31 : decode b_VS_describe 31 = .ok (.aload_n 0, 1) := by decide +kernel
theorem d_VS_describe_32 : decode b_VS_describe 32 = .ok (.getfield 43, 3) := by decide +kernel
theorem d_VS_describe_35 : decode b_VS_describe 35 = .ok (.invokevirtual 231, 3) := by decide +kernel
theorem d_VS_describe_38 : decode b_VS_describe 38 = .ok (.aload_n 0, 1) := by decide +kernel
theorem d_VS_describe_39 : decode b_VS_describe 39 = .ok (.aload_n 0, 1) := by decide +kernel
theorem d_VS_describe_40 : decode b_VS_describe 40 = .ok (.getfield 30, 3) := by decide +kernel
theorem d_VS_describe_43 : decode b_VS_describe 43 = .ok (.ldc 233, 2) := by decide +kernel
theorem d_VS_describe_45 : decode b_VS_describe 45 = .ok (.aload_n 1, 1) := by decide +kernel
theorem d_VS_describe_46 : decode b_VS_describe 46 = .ok (.getfield 184, 3) := by decide +kernel
theorem d_VS_describe_49 : decode b_VS_describe 49 = .ok (.invokevirtual 80, 3) := by decide +kernel
theorem d_VS_describe_52 : decode b_VS_describe 52 = .ok (.pop, 1) := by decide +kernel
theorem d_VS_describe_53 : decode b_VS_describe 53 = .ok (.aload_n 1, 1) := by decide +kernel
theorem d_VS_describe_54 : decode b_VS_describe 54 = .ok (.getfield 184, 3) := by decide +kernel
theorem d_VS_describe_57 : decode b_VS_describe 57 = .ok (.invokevirtual 234, 3) := by decide +kernel
theorem d_VS_describe_60 : decode b_VS_describe 60 = .ok (.return_, 1) := by decide +kernel
theorem d_VS_startLife_0 : decode b_VS_startLife 0 = .ok (.aload_n 0, 1) := by decide +kernel
theorem d_VS_startLife_1 : decode b_VS_startLife 1 = .ok (.ldc 237, 2) := by decide +kernel
theorem d_VS_startLife_3 : decode b_VS_startLife 3 = .ok (.invokevirtual 239, 3) := by decide +kernel
theorem d_VS_startLife_6 : decode b_VS_startLife 6 = .ok (.istore_n 2, 1) := by decide +kernel
theorem d_VS_startLife_7 : decode b_VS_startLife 7 = .ok (.aload_n 0, 1) := by decide +kernel
theorem d_VS_startLife_8 : decode b_VS_startLife 8 = .ok (.ldc 243, 2) := by decide +kernel
theorem d_VS_startLife_10 : decode b_VS_startLife 10 = .ok (.invokevirtual 239, 3) := by decide +kernel
theorem d_VS_startLife_13 : decode b_VS_startLife 13 = .ok (.istore_n 3, 1) := by decide +kernel
theorem d_VS_startLife_14 : decode b_VS_startLife 14 = .ok (.aload_n 1, 1) := by decide +kernel
theorem d_VS_startLife_15 : decode b_VS_startLife 15 = .ok (.getfield 245, 3) := by decide +kernel
theorem d_VS_startLife_18 : decode b_VS_startLife 18 = .ok (.ifCond .lt 14, 3) := by decide +kernel
theorem d_VS_startLife_32 : decode b_VS_startLife 32 = .ok (.aload_n 1, 1) := by decide +kernel
theorem d_VS_startLife_33 : decode b_VS_startLife 33 = .ok (.getfield 248, 3) := by decide +kernel
theorem d_VS_startLife_36 : decode b_VS_startLife 36 = .ok (.ifCond .lt 14, 3) := by decide +kernel
theorem d_VS_startLife_50 : decode b_VS_startLife 50 = .ok (.iload_n 2, 1) := by decide +kernel
theorem d_VS_startLife_51 : decode b_VS_startLife 51 = .ok (.iconst (-1), 1) := by decide +kernel
theorem d_VS_startLife_52 : decode b_VS_startLife 52 = .ok (.if_icmp .eq 22, 3) := by decide +kernel
theorem d_VS_startLife_74 : decode b_VS_startLife 74 = .ok (.aload_n 1, 1) := by decide +kernel
theorem d_VS_startLife_75 : decode b_VS_startLife 75 = .ok (.iconst 0, 1) := by decide +kernel
theorem d_VS_startLife_76 : decode b_VS_startLife 76 = .ok (.putfield 178, 3) := by decide +kernel
theorem d_VS_startLife_79 : decode b_VS_startLife 79 = .ok (.aload_n 1, 1) := by decide +kernel
theorem d_VS_startLife_80 : decode b_VS_startLife 80 = .ok (.iconst 0, 1) := by decide +kernel
theorem d_VS_startLife_81 : decode b_VS_startLife 81 = .ok (.aload_n 0, 1) := by decide +kernel
theorem d_VS_startLife_82 : decode b_VS_startLife 82 = .ok (.ldc_w 256, 3) := by decide +kernel
theorem d_VS_startLife_85 : decode b_VS_startLife 85 = .ok (.invokevirtual 239, 3) := by decide +kernel
theorem d_VS_startLife_88 : decode b_VS_startLife 88 = .ok (.invokestatic 251, 3) := by decide +kernel
theorem d_VS_startLife_91 : decode b_VS_startLife 91 = .ok (.putfield 258, 3) := by decide +kernel
theorem d_VS_startLife_94 : decode b_VS_startLife 94 = .ok (.aload_n 1, 1) := by decide +kernel
theorem d_VS_startLife_95 : decode b_VS_startLife 95 = .ok (.aload_n 0, 1) := by decide +kernel
theorem d_VS_startLife_96 : decode b_VS_startLife 96 = .ok (.getfield 37, 3) := by decide +kernel
theorem d_VS_startLife_99 : decode b_VS_startLife 99 = .ok (.putfield 260, 3) := by decide +kernel
theorem d_VS_startLife_102 : decode b_VS_startLife 102 = .ok (.return_, 1) := by decide +kernel
theorem d_VS_mayBeKept_0 : decode b_VS_mayBeKept 0 = .ok (.aload_n 1, 1) := by decide +kernel
theorem d_VS_mayBeKept_1 : decode b_VS_mayBeKept 1 = .ok (.getfield 263, 3) := by decide +kernel
theorem d_VS_mayBeKept_4 : decode b_VS_mayBeKept 4 = .ok (.ifCond .ne 16, 3) := by decide +kernel
theorem d_VS_mayBeKept_7 : decode b_VS_mayBeKept 7 = .ok (.aload_n 1, 1) := by decide +kernel
theorem d_VS_mayBeKept_8 : decode b_VS_mayBeKept 8 = .ok (.getfield 184, 3) := by decide +kernel
theorem d_VS_mayBeKept_11 : decode b_VS_mayBeKept 11 = .ok (.ldc_w 266, 3) := by decide +kernel
theorem d_VS_mayBeKept_14 : decode b_VS_mayBeKept 14 = .ok (.invokevirtual 268, 3) := by decide +kernel
theorem d_VS_mayBeKept_17 : decode b_VS_mayBeKept 17 = .ok (.ifCond .eq 5, 3) := by decide +kernel
theorem d_VS_mayBeKept_22 : decode b_VS_mayBeKept 22 = .ok (.aload_n 0, 1) := by decide +kernel
theorem d_VS_mayBeKept_23 : decode b_VS_mayBeKept 23 = .ok (.aload_n 0, 1) := by decide +kernel
theorem d_VS_mayBeKept_24 : decode b_VS_mayBeKept 24 = .ok (.getfield 26, 3) := by decide +kernel
theorem d_VS_mayBeKept_27 : decode b_VS_mayBeKept 27 = .ok (.ldc 78, 2) := by decide +kernel
theorem d_VS_mayBeKept_29 : decode b_VS_mayBeKept 29 = .ok (.aload_n 0, 1) := by decide +kernel
theorem d_VS_mayBeKept_30 : decode b_VS_mayBeKept 30 = .ok (.getfield 49, 3) := by decide +kernel
theorem d_VS_mayBeKept_33 : decode b_VS_mayBeKept 33 = .ok (.invokevirtual 80, 3) := by decide +kernel
theorem d_VS_mayBeKept_36 : decode b_VS_mayBeKept 36 = .ok (.pop, 1) := by decide +kernel
theorem d_VS_mayBeKept_37 : decode b_VS_mayBeKept 37 = .ok (.aload_n 0, 1) := by decide +kernel
theorem d_VS_mayBeKept_38 : decode b_VS_mayBeKept 38 = .ok (.getfield 49, 3) := by decide +kernel
theorem d_VS_mayBeKept_41 : decode b_VS_mayBeKept 41 = .ok (.ldc_w 271, 3) := by decide +kernel
theorem d_VS_mayBeKept_44 : decode b_VS_mayBeKept 44 = .ok (.invokevirtual 102, 3) := by decide +kernel
theorem d_VS_mayBeKept_47 : decode b_VS_mayBeKept 47 = .ok (.ifCond .eq 5, 3) := by decide +kernel
theorem d_VS_mayBeKept_52 : decode b_VS_mayBeKept 52 = .ok (.aload_n 1, 1) := by decide +kernel
theorem d_VS_mayBeKept_53 : decode b_VS_mayBeKept 53 = .ok (.getfield 178, 3) := by decide +kernel
theorem d_VS_mayBeKept_56 : decode b_VS_mayBeKept 56 = .ok (.ifCond .gt 13, 3) := by decide +kernel
theorem d_VS_mayBeKept_59 : decode b_VS_mayBeKept 59 = .ok (.aload_n 1, 1) := by decide +kernel
theorem d_VS_mayBeKept_60 : decode b_VS_mayBeKept 60 = .ok (.getfield 149, 3) := by decide +kernel
theorem d_VS_mayBeKept_63 : decode b_VS_mayBeKept 63 = .ok (.getfield 59, 3) := by decide +kernel
theorem d_VS_mayBeKept_66 : decode b_VS_mayBeKept 66 = .ok (.ifCond .le 7, 3) := by decide +kernel
theorem d_VS_mayBeKept_73 : decode b_VS_mayBeKept 73 = .ok (.iconst 0, 1) := by decide +kernel
theorem d_VS_mayBeKept_74 : decode b_VS_mayBeKept 74 = .ok (.ireturn, 1) := by decide +kernel
theorem d_VS_keep_0 : decode b_VS_keep 0 = .ok (.aload_n 0, 1) := by decide +kernel
theorem d_VS_keep_1 : decode b_VS_keep 1 = .ok (.iload_n 1, 1) := by decide +kernel
theorem d_VS_keep_2 : decode b_VS_keep 2 = .ok (.invokevirtual 74, 3) := by decide +kernel
theorem d_VS_keep_5 : decode b_VS_keep 5 = .ok (.aload_n 0, 1) := by decide +kernel
theorem d_VS_keep_6 : decode b_VS_keep 6 = .ok (.getfield 19, 3) := by decide +kernel
theorem d_VS_keep_9 : decode b_VS_keep 9 = .ok (.invokevirtual 106, 3) := by decide +kernel
theorem d_VS_keep_12 : decode b_VS_keep 12 = .ok (.astore_n 2, 1) := by decide +kernel
theorem d_VS_keep_13 : decode b_VS_keep 13 = .ok (.aload_n 0, 1) := by decide +kernel
theorem d_VS_keep_14 : decode b_VS_keep 14 = .ok (.aload_n 2, 1) := by decide +kernel
theorem d_VS_keep_15 : decode b_VS_keep 15 = .ok (.iload_n 1, 1) := by decide +kernel
theorem d_VS_keep_16 : decode b_VS_keep 16 = .ok (.invokevirtual 110, 3) := by decide +kernel
theorem d_VS_keep_19 : decode b_VS_keep 19 = .ok (.aload_n 0, 1) := by decide +kernel
theorem d_VS_keep_20 : decode b_VS_keep 20 = .ok (.aload_n 0, 1) := by decide +kernel
theorem d_VS_keep_21 : decode b_VS_keep 21 = .ok (.getfield 30, 3) := by decide +kernel
theorem d_VS_keep_24 : decode b_VS_keep 24 = .ok (.ldc 78, 2) := by decide +kernel
theorem d_VS_keep_26 : decode b_VS_keep 26 = .ok (.aload_n 0, 1) := by decide +kernel
theorem d_VS_keep_27 : decode b_VS_keep 27 = .ok (.getfield 49, 3) := by decide +kernel
theorem d_VS_keep_30 : decode b_VS_keep 30 = .ok (.invokevirtual 80, 3) := by decide +kernel
theorem d_VS_keep_33 : decode b_VS_keep 33 = .ok (.pop, 1) := by decide +kernel
theorem d_VS_keep_34 : decode b_VS_keep 34 = .ok (.aload_n 2, 1) := by decide +kernel
theorem d_VS_keep_35 : decode b_VS_keep 35 = .ok (.aload_n 0, 1) := by decide +kernel
theorem d_VS_keep_36 : decode b_VS_keep 36 = .ok (.getfield 49, 3) := by decide +kernel
theorem d_VS_keep_39 : decode b_VS_keep 39 = .ok (.invokevirtual 114, 3) := by decide +kernel
theorem d_VS_keep_42 : decode b_VS_keep 42 = .ok (.aload_n 0, 1) := by decide +kernel
theorem d_VS_keep_43 : decode b_VS_keep 43 = .ok (.aload_n 2, 1) := by decide +kernel
theorem d_VS_keep_44 : decode b_VS_keep 44 = .ok (.invokevirtual 120, 3) := by decide +kernel
theorem d_VS_keep_47 : decode b_VS_keep 47 = .ok (.aload_n 0, 1) := by decide +kernel
theorem d_VS_keep_48 : decode b_VS_keep 48 = .ok (.getfield 19, 3) := by decide +kernel
theorem d_VS_keep_51 : decode b_VS_keep 51 = .ok (.aload_n 0, 1) := by decide +kernel
theorem d_VS_keep_52 : decode b_VS_keep 52 = .ok (.aload_n 2, 1) := by decide +kernel
theorem d_VS_keep_53 : decode b_VS_keep 53 = .ok (.invokevirtual 123, 3) := by decide +kernel
theorem d_VS_keep_56 : decode b_VS_keep 56 = .ok (.invokevirtual 126, 3) := by decide +kernel
theorem d_VS_keep_59 : decode b_VS_keep 59 = .ok (.aload_n 0, 1) := by decide +kernel
theorem d_VS_keep_60 : decode b_VS_keep 60 = .ok (.aload_n 2, 1) := by decide +kernel
theorem d_VS_keep_61 : decode b_VS_keep 61 = .ok (.invokevirtual 129, 3) := by decide +kernel
theorem d_VS_keep_64 : decode b_VS_keep 64 = .ok (.ifCond .ne 5, 3) := by decide +kernel
theorem d_VS_keep_67 : decode b_VS_keep 67 = .ok (.iconst 0, 1) := by decide +kernel
theorem d_VS_keep_68 : decode b_VS_keep 68 = .ok (.ireturn, 1) := by decide +kernel
set_option maxRecDepth 20000 in
theorem w_585 : Cond.methodLink "VaryStore$Text" 36 arraycopyName ∈ TB := tb_in 585 (by decide +kernel) (by decide +kernel)
set_option maxRecDepth 20000 in
theorem w_254 : Cond.methodLink "VaryStore$Row" 45 Lib.Math.max.name ∈ TB := tb_in 254 (by decide +kernel) (by decide +kernel)
set_option maxRecDepth 20000 in
theorem w_255 : Cond.static Lib.Math.max.name ∈ TB := tb_in 255 (by decide +kernel) (by decide +kernel)
set_option maxRecDepth 20000 in
theorem w_38 : Cond.initialized "java/lang/Math" ∈ TB := tb_in 38 (by decide +kernel) (by decide +kernel)
set_option maxRecDepth 20000 in
theorem w_256 : Cond.code Lib.Math.max.name Lib.Math.max.code 2 (some .int) ∈ TB := tb_in 256 (by decide +kernel) (by decide +kernel)
set_option maxRecDepth 20000 in
theorem w_253 : Cond.code ⟨"VaryStore$Row", "makeSmall", "(II)V"⟩ prog_3_method_10_code 4 none ∈ TB := tb_in 253 (by decide +kernel) (by decide +kernel)
set_option maxRecDepth 20000 in
theorem w_593 : Cond.methodLink "VaryStore$Items" 61 ⟨"VaryStore$Row", "makeSmall", "(II)V"⟩ ∈ TB := tb_in 593 (by decide +kernel) (by decide +kernel)
set_option maxRecDepth 20000 in
theorem w_251 : Cond.instanceMethod ⟨"VaryStore$Row", "makeSmall", "(II)V"⟩ ∈ TB := tb_in 251 (by decide +kernel) (by decide +kernel)
set_option maxRecDepth 20000 in
theorem w_252 : Cond.selects "VaryStore$Row" ⟨"VaryStore$Row", "makeSmall", "(II)V"⟩ ⟨"VaryStore$Row", "makeSmall", "(II)V"⟩ ∈ TB := tb_in 252 (by decide +kernel) (by decide +kernel)
set_option maxRecDepth 20000 in
theorem w_514 : Cond.instantiable "VaryStore$Thing" 13 ∈ TB := tb_in 514 (by decide +kernel) (by decide +kernel)
set_option maxRecDepth 20000 in
theorem w_47 : Cond.initialized "VaryStore$Thing" ∈ TB := tb_in 47 (by decide +kernel) (by decide +kernel)
set_option maxRecDepth 20000 in
theorem w_517 : Cond.code ⟨"VaryStore$Thing", "<init>", "()V"⟩ prog_6_method_1_code 1 none ∈ TB := tb_in 517 (by decide +kernel) (by decide +kernel)
set_option maxRecDepth 20000 in
theorem w_515 : Cond.methodLinkNest "VaryStore$Shelf" 24 ⟨"VaryStore$Thing", "<init>", "()V"⟩ "VaryStore" ∈ NB := nb_in 515 (by decide +kernel) (by decide +kernel)
set_option maxRecDepth 20000 in
theorem w_516 : Cond.instanceMethod ⟨"VaryStore$Thing", "<init>", "()V"⟩ ∈ TB := tb_in 516 (by decide +kernel) (by decide +kernel)
set_option maxRecDepth 20000 in
theorem w_599 : Cond.methodLink "VaryStore$Thing" 66 ⟨"VaryStore$Items", "said", "(Ljava/lang/String;)I"⟩ ∈ TB := tb_in 599 (by decide +kernel) (by decide +kernel)
set_option maxRecDepth 20000 in
theorem w_602 : Cond.methodLink "VaryStore$Thing" 74 ⟨"VaryStore$Items", "has", "(Ljava/lang/String;)Z"⟩ ∈ TB := tb_in 602 (by decide +kernel) (by decide +kernel)
set_option maxRecDepth 20000 in
theorem w_532 : Cond.fieldLinkNest "VaryStore" 158 "VaryStore$Thing" "path" "I" "VaryStore"  ∈ NB := nb_in 532 (by decide +kernel) (by decide +kernel)
set_option maxRecDepth 20000 in
theorem w_530 : Cond.fieldLinkNest "VaryStore" 226 "VaryStore$Thing" "request" "LVaryStore$Text;" "VaryStore"  ∈ NB := nb_in 530 (by decide +kernel) (by decide +kernel)
set_option maxRecDepth 20000 in
theorem w_584 : Cond.code ⟨"VaryStore$Text", "copy", "(LVaryStore$Text;)V"⟩ prog_5_method_2_code 2 none ∈ TB := tb_in 584 (by decide +kernel) (by decide +kernel)
set_option maxRecDepth 20000 in
theorem w_581 : Cond.methodLink "VaryStore" 227 ⟨"VaryStore$Text", "copy", "(LVaryStore$Text;)V"⟩ ∈ TB := tb_in 581 (by decide +kernel) (by decide +kernel)
set_option maxRecDepth 20000 in
theorem w_582 : Cond.instanceMethod ⟨"VaryStore$Text", "copy", "(LVaryStore$Text;)V"⟩ ∈ TB := tb_in 582 (by decide +kernel) (by decide +kernel)
set_option maxRecDepth 20000 in
theorem w_583 : Cond.selects "VaryStore$Text" ⟨"VaryStore$Text", "copy", "(LVaryStore$Text;)V"⟩ ⟨"VaryStore$Text", "copy", "(LVaryStore$Text;)V"⟩ ∈ TB := tb_in 583 (by decide +kernel) (by decide +kernel)
set_option maxRecDepth 20000 in
theorem w_526 : Cond.fieldLinkNest "VaryStore" 149 "VaryStore$Thing" "etag" "LVaryStore$Row;" "VaryStore"  ∈ NB := nb_in 526 (by decide +kernel) (by decide +kernel)
set_option maxRecDepth 20000 in
theorem w_587 : Cond.methodLink "VaryStore" 231 ⟨"VaryStore$Row", "copy", "(LVaryStore$Row;)V"⟩ ∈ TB := tb_in 587 (by decide +kernel) (by decide +kernel)
set_option maxRecDepth 20000 in
theorem w_528 : Cond.fieldLinkNest "VaryStore" 184 "VaryStore$Thing" "vary" "LVaryStore$Items;" "VaryStore"  ∈ NB := nb_in 528 (by decide +kernel) (by decide +kernel)
set_option maxRecDepth 20000 in
theorem w_592 : Cond.code ⟨"VaryStore$Items", "makeSmall", "()V"⟩ prog_2_method_7_code 1 none ∈ TB := tb_in 592 (by decide +kernel) (by decide +kernel)
set_option maxRecDepth 20000 in
theorem w_589 : Cond.methodLink "VaryStore" 234 ⟨"VaryStore$Items", "makeSmall", "()V"⟩ ∈ TB := tb_in 589 (by decide +kernel) (by decide +kernel)
set_option maxRecDepth 20000 in
theorem w_590 : Cond.instanceMethod ⟨"VaryStore$Items", "makeSmall", "()V"⟩ ∈ TB := tb_in 590 (by decide +kernel) (by decide +kernel)
set_option maxRecDepth 20000 in
theorem w_591 : Cond.selects "VaryStore$Items" ⟨"VaryStore$Items", "makeSmall", "()V"⟩ ⟨"VaryStore$Items", "makeSmall", "()V"⟩ ∈ TB := tb_in 591 (by decide +kernel) (by decide +kernel)
set_option maxRecDepth 20000 in
theorem w_615 : Cond.code ⟨"VaryStore", "numberOf", "(Ljava/lang/String;)I"⟩ prog_1_method_17_code 2 (some .int) ∈ TB := tb_in 615 (by decide +kernel) (by decide +kernel)
set_option maxRecDepth 20000 in
theorem w_612 : Cond.methodLink "VaryStore" 239 ⟨"VaryStore", "numberOf", "(Ljava/lang/String;)I"⟩ ∈ TB := tb_in 612 (by decide +kernel) (by decide +kernel)
set_option maxRecDepth 20000 in
theorem w_614 : Cond.instanceMethod ⟨"VaryStore", "numberOf", "(Ljava/lang/String;)I"⟩ ∈ TB := tb_in 614 (by decide +kernel) (by decide +kernel)
set_option maxRecDepth 20000 in
theorem w_14 : Cond.selects "VaryStore" ⟨"VaryStore", "numberOf", "(Ljava/lang/String;)I"⟩ ⟨"VaryStore", "numberOf", "(Ljava/lang/String;)I"⟩ ∈ TB := tb_in 14 (by decide +kernel) (by decide +kernel)
set_option maxRecDepth 20000 in
theorem w_534 : Cond.fieldLinkNest "VaryStore" 245 "VaryStore$Thing" "sharedMaxAge" "I" "VaryStore"  ∈ NB := nb_in 534 (by decide +kernel) (by decide +kernel)
set_option maxRecDepth 20000 in
theorem w_536 : Cond.fieldLinkNest "VaryStore" 248 "VaryStore$Thing" "maxAge" "I" "VaryStore"  ∈ NB := nb_in 536 (by decide +kernel) (by decide +kernel)
set_option maxRecDepth 20000 in
theorem w_543 : Cond.fieldLinkNest "VaryStore" 178 "VaryStore$Thing" "life" "I" "VaryStore"  ∈ NB := nb_in 543 (by decide +kernel) (by decide +kernel)
set_option maxRecDepth 20000 in
theorem w_618 : Cond.methodLink "VaryStore" 251 Lib.Math.max.name ∈ TB := tb_in 618 (by decide +kernel) (by decide +kernel)
set_option maxRecDepth 20000 in
theorem w_545 : Cond.fieldLinkNest "VaryStore" 258 "VaryStore$Thing" "age" "I" "VaryStore"  ∈ NB := nb_in 545 (by decide +kernel) (by decide +kernel)
set_option maxRecDepth 20000 in
theorem w_547 : Cond.fieldLinkNest "VaryStore" 260 "VaryStore$Thing" "since" "I" "VaryStore"  ∈ NB := nb_in 547 (by decide +kernel) (by decide +kernel)
set_option maxRecDepth 20000 in
theorem w_538 : Cond.fieldLinkNest "VaryStore" 263 "VaryStore$Thing" "secret" "Z" "VaryStore"  ∈ NB := nb_in 538 (by decide +kernel) (by decide +kernel)
set_option maxRecDepth 20000 in
theorem w_632 : Cond.code ⟨"VaryStore$Items", "holds", "(Ljava/lang/String;)Z"⟩ prog_2_method_9_code 4 (some .boolean) ∈ TB := tb_in 632 (by decide +kernel) (by decide +kernel)
set_option maxRecDepth 20000 in
theorem w_629 : Cond.methodLink "VaryStore" 268 ⟨"VaryStore$Items", "holds", "(Ljava/lang/String;)Z"⟩ ∈ TB := tb_in 629 (by decide +kernel) (by decide +kernel)
set_option maxRecDepth 20000 in
theorem w_630 : Cond.instanceMethod ⟨"VaryStore$Items", "holds", "(Ljava/lang/String;)Z"⟩ ∈ TB := tb_in 630 (by decide +kernel) (by decide +kernel)
set_option maxRecDepth 20000 in
theorem w_631 : Cond.selects "VaryStore$Items" ⟨"VaryStore$Items", "holds", "(Ljava/lang/String;)Z"⟩ ⟨"VaryStore$Items", "holds", "(Ljava/lang/String;)Z"⟩ ∈ TB := tb_in 631 (by decide +kernel) (by decide +kernel)
set_option maxRecDepth 20000 in
theorem w_513 : Cond.code ⟨"VaryStore$Shelf", "spare", "()LVaryStore$Thing;"⟩ prog_4_method_3_code 2 (some (.object "VaryStore$Thing")) ∈ TB := tb_in 513 (by decide +kernel) (by decide +kernel)
set_option maxRecDepth 20000 in
theorem w_510 : Cond.methodLink "VaryStore" 106 ⟨"VaryStore$Shelf", "spare", "()LVaryStore$Thing;"⟩ ∈ TB := tb_in 510 (by decide +kernel) (by decide +kernel)
set_option maxRecDepth 20000 in
theorem w_511 : Cond.instanceMethod ⟨"VaryStore$Shelf", "spare", "()LVaryStore$Thing;"⟩ ∈ TB := tb_in 511 (by decide +kernel) (by decide +kernel)
set_option maxRecDepth 20000 in
theorem w_512 : Cond.selects "VaryStore$Shelf" ⟨"VaryStore$Shelf", "spare", "()LVaryStore$Thing;"⟩ ⟨"VaryStore$Shelf", "spare", "()LVaryStore$Thing;"⟩ ∈ TB := tb_in 512 (by decide +kernel) (by decide +kernel)
set_option maxRecDepth 20000 in
theorem w_580 : Cond.code ⟨"VaryStore", "describe", "(LVaryStore$Thing;I)V"⟩ prog_1_method_18_code 3 none ∈ TB := tb_in 580 (by decide +kernel) (by decide +kernel)
set_option maxRecDepth 20000 in
theorem w_577 : Cond.methodLink "VaryStore" 110 ⟨"VaryStore", "describe", "(LVaryStore$Thing;I)V"⟩ ∈ TB := tb_in 577 (by decide +kernel) (by decide +kernel)
set_option maxRecDepth 20000 in
theorem w_579 : Cond.instanceMethod ⟨"VaryStore", "describe", "(LVaryStore$Thing;I)V"⟩ ∈ TB := tb_in 579 (by decide +kernel) (by decide +kernel)
set_option maxRecDepth 20000 in
theorem w_12 : Cond.selects "VaryStore" ⟨"VaryStore", "describe", "(LVaryStore$Thing;I)V"⟩ ⟨"VaryStore", "describe", "(LVaryStore$Thing;I)V"⟩ ∈ TB := tb_in 12 (by decide +kernel) (by decide +kernel)
set_option maxRecDepth 20000 in
theorem w_597 : Cond.code ⟨"VaryStore$Thing", "obey", "(LVaryStore$Items;)V"⟩ prog_6_method_2_code 2 none ∈ TB := tb_in 597 (by decide +kernel) (by decide +kernel)
set_option maxRecDepth 20000 in
theorem w_594 : Cond.methodLink "VaryStore" 114 ⟨"VaryStore$Thing", "obey", "(LVaryStore$Items;)V"⟩ ∈ TB := tb_in 594 (by decide +kernel) (by decide +kernel)
set_option maxRecDepth 20000 in
theorem w_595 : Cond.instanceMethod ⟨"VaryStore$Thing", "obey", "(LVaryStore$Items;)V"⟩ ∈ TB := tb_in 595 (by decide +kernel) (by decide +kernel)
set_option maxRecDepth 20000 in
theorem w_596 : Cond.selects "VaryStore$Thing" ⟨"VaryStore$Thing", "obey", "(LVaryStore$Items;)V"⟩ ⟨"VaryStore$Thing", "obey", "(LVaryStore$Items;)V"⟩ ∈ TB := tb_in 596 (by decide +kernel) (by decide +kernel)
set_option maxRecDepth 20000 in
theorem w_610 : Cond.code ⟨"VaryStore", "startLife", "(LVaryStore$Thing;)V"⟩ prog_1_method_19_code 4 none ∈ TB := tb_in 610 (by decide +kernel) (by decide +kernel)
set_option maxRecDepth 20000 in
theorem w_607 : Cond.methodLink "VaryStore" 120 ⟨"VaryStore", "startLife", "(LVaryStore$Thing;)V"⟩ ∈ TB := tb_in 607 (by decide +kernel) (by decide +kernel)
set_option maxRecDepth 20000 in
theorem w_609 : Cond.instanceMethod ⟨"VaryStore", "startLife", "(LVaryStore$Thing;)V"⟩ ∈ TB := tb_in 609 (by decide +kernel) (by decide +kernel)
set_option maxRecDepth 20000 in
theorem w_13 : Cond.selects "VaryStore" ⟨"VaryStore", "startLife", "(LVaryStore$Thing;)V"⟩ ⟨"VaryStore", "startLife", "(LVaryStore$Thing;)V"⟩ ∈ TB := tb_in 13 (by decide +kernel) (by decide +kernel)
set_option maxRecDepth 20000 in
theorem w_623 : Cond.code ⟨"VaryStore", "placeOfSame", "(LVaryStore$Thing;)I"⟩ prog_1_method_21_code 4 (some .int) ∈ TB := tb_in 623 (by decide +kernel) (by decide +kernel)
set_option maxRecDepth 20000 in
theorem w_620 : Cond.methodLink "VaryStore" 123 ⟨"VaryStore", "placeOfSame", "(LVaryStore$Thing;)I"⟩ ∈ TB := tb_in 620 (by decide +kernel) (by decide +kernel)
set_option maxRecDepth 20000 in
theorem w_622 : Cond.instanceMethod ⟨"VaryStore", "placeOfSame", "(LVaryStore$Thing;)I"⟩ ∈ TB := tb_in 622 (by decide +kernel) (by decide +kernel)
set_option maxRecDepth 20000 in
theorem w_15 : Cond.selects "VaryStore" ⟨"VaryStore", "placeOfSame", "(LVaryStore$Thing;)I"⟩ ⟨"VaryStore", "placeOfSame", "(LVaryStore$Thing;)I"⟩ ∈ TB := tb_in 15 (by decide +kernel) (by decide +kernel)
set_option maxRecDepth 20000 in
theorem w_201 : Cond.code ⟨"VaryStore$Shelf", "drop", "(I)V"⟩ prog_4_method_6_code 2 none ∈ TB := tb_in 201 (by decide +kernel) (by decide +kernel)
set_option maxRecDepth 20000 in
theorem w_198 : Cond.methodLink "VaryStore" 126 ⟨"VaryStore$Shelf", "drop", "(I)V"⟩ ∈ TB := tb_in 198 (by decide +kernel) (by decide +kernel)
set_option maxRecDepth 20000 in
theorem w_199 : Cond.instanceMethod ⟨"VaryStore$Shelf", "drop", "(I)V"⟩ ∈ TB := tb_in 199 (by decide +kernel) (by decide +kernel)
set_option maxRecDepth 20000 in
theorem w_200 : Cond.selects "VaryStore$Shelf" ⟨"VaryStore$Shelf", "drop", "(I)V"⟩ ⟨"VaryStore$Shelf", "drop", "(I)V"⟩ ∈ TB := tb_in 200 (by decide +kernel) (by decide +kernel)
set_option maxRecDepth 20000 in
theorem w_627 : Cond.code ⟨"VaryStore", "mayBeKept", "(LVaryStore$Thing;)Z"⟩ prog_1_method_20_code 2 (some .boolean) ∈ TB := tb_in 627 (by decide +kernel) (by decide +kernel)
set_option maxRecDepth 20000 in
theorem w_624 : Cond.methodLink "VaryStore" 129 ⟨"VaryStore", "mayBeKept", "(LVaryStore$Thing;)Z"⟩ ∈ TB := tb_in 624 (by decide +kernel) (by decide +kernel)
set_option maxRecDepth 20000 in
theorem w_626 : Cond.instanceMethod ⟨"VaryStore", "mayBeKept", "(LVaryStore$Thing;)Z"⟩ ∈ TB := tb_in 626 (by decide +kernel) (by decide +kernel)
set_option maxRecDepth 20000 in
theorem w_16 : Cond.selects "VaryStore" ⟨"VaryStore", "mayBeKept", "(LVaryStore$Thing;)Z"⟩ ⟨"VaryStore", "mayBeKept", "(LVaryStore$Thing;)Z"⟩ ∈ TB := tb_in 16 (by decide +kernel) (by decide +kernel)
set_option maxRecDepth 100000 in
theorem fa_VS_158 : FA "VaryStore" 158 5 3 R_Th F_Th 13 t_Th := ⟨rfl, uw_Th, by decide, to_Th, n_Th, Or.inr ⟨"VaryStore", w_532⟩⟩
set_option maxRecDepth 100000 in
theorem fa_VS_226 : FA "VaryStore" 226 5 2 R_Th F_Th 13 t_Th := ⟨rfl, uw_Th, by decide, to_Th, n_Th, Or.inr ⟨"VaryStore", w_530⟩⟩
set_option maxRecDepth 100000 in
theorem fa_VS_149 : FA "VaryStore" 149 5 0 R_Th F_Th 13 t_Th := ⟨rfl, uw_Th, by decide, to_Th, n_Th, Or.inr ⟨"VaryStore", w_526⟩⟩
set_option maxRecDepth 100000 in
theorem fa_VS_184 : FA "VaryStore" 184 5 1 R_Th F_Th 13 t_Th := ⟨rfl, uw_Th, by decide, to_Th, n_Th, Or.inr ⟨"VaryStore", w_528⟩⟩
set_option maxRecDepth 100000 in
theorem fa_VS_245 : FA "VaryStore" 245 5 4 R_Th F_Th 13 t_Th := ⟨rfl, uw_Th, by decide, to_Th, n_Th, Or.inr ⟨"VaryStore", w_534⟩⟩
set_option maxRecDepth 100000 in
theorem fa_VS_248 : FA "VaryStore" 248 5 5 R_Th F_Th 13 t_Th := ⟨rfl, uw_Th, by decide, to_Th, n_Th, Or.inr ⟨"VaryStore", w_536⟩⟩
set_option maxRecDepth 100000 in
theorem fa_VS_178 : FA "VaryStore" 178 5 9 R_Th F_Th 13 t_Th := ⟨rfl, uw_Th, by decide, to_Th, n_Th, Or.inr ⟨"VaryStore", w_543⟩⟩
set_option maxRecDepth 100000 in
theorem fa_VS_258 : FA "VaryStore" 258 5 10 R_Th F_Th 13 t_Th := ⟨rfl, uw_Th, by decide, to_Th, n_Th, Or.inr ⟨"VaryStore", w_545⟩⟩
set_option maxRecDepth 100000 in
theorem fa_VS_260 : FA "VaryStore" 260 5 11 R_Th F_Th 13 t_Th := ⟨rfl, uw_Th, by decide, to_Th, n_Th, Or.inr ⟨"VaryStore", w_547⟩⟩
set_option maxRecDepth 100000 in
theorem fa_VS_263 : FA "VaryStore" 263 5 6 R_Th F_Th 13 t_Th := ⟨rfl, uw_Th, by decide, to_Th, n_Th, Or.inr ⟨"VaryStore", w_538⟩⟩
def k_Te_copy0 : MS := ("VaryStore$Text", b_Te_copy, 2, none, "copy", { frames := 2, cells := 0, slots := 0, locals := 61 }, [])
set_option maxRecDepth 100000 in
set_option maxHeartbeats 4000000 in
theorem c_Te_copy0 (Γ : GE) (t : Nat) (o : Nat) (ln : Int) (z : Int) (f : Nat → Int32) (g : Nat → Int32) (g1 : Nat → Int32) (g2 : Nat → Int32) (g3 : Nat → Int32) (h1 : Nat → Int32) (h2 : Nat → Int32) (h3 : Nat → Int32) {M : HM} {n : Nat} (hto : t + 6 ≤ o ∨ o + 6 ≤ t) (p0 : M (t) = some (.inr (4, [.ref (t + 1), .ref (t + 3), .ref (t + 4), .ref (t + 5), .int (iI (ln))]))) (p1 : M (t + 1) = some (.inr (2, [.ref (t + 2), .int (iI (z))]))) (p2 : M (t + 1 + 1) = some (.inl (Γ.2.2.1 0, 300, .inl (f)))) (p3 : M (t + 3) = some (.inl (Γ.2.2.1 1, 100, .inl (g1)))) (p4 : M (t + 4) = some (.inl (Γ.2.2.1 1, 100, .inl (g2)))) (p5 : M (t + 5) = some (.inl (Γ.2.2.1 1, 100, .inl (g3)))) (p6 : M (o) = some (.inr (4, [.ref (o + 1), .ref (o + 3), .ref (o + 4), .ref (o + 5), .int (iI (0))]))) (p7 : M (o + 1) = some (.inr (2, [.ref (o + 2), .int (iI (0))]))) (p8 : M (o + 1 + 1) = some (.inl (Γ.2.2.1 0, 300, .inl (g)))) (p9 : M (o + 3) = some (.inl (Γ.2.2.1 1, 100, .inl (h1)))) (p10 : M (o + 4) = some (.inl (Γ.2.2.1 1, 100, .inl (h2)))) (p11 : M (o + 5) = some (.inl (Γ.2.2.1 1, 100, .inl (h3)))) : CT Γ k_Te_copy0 y_Te_copy [.ref (t), .ref (o)] M (n) (fun v M' n' => n = n' ∧ (∀ q, q ≠ t + 2 → q ≠ t + 1 → q ≠ t + 3 → q ≠ t + 4 → q ≠ t + 5 → q ≠ t → M' q = M q) ∧ v = none ∧ M' (t + 2) = some (.inl (Γ.2.2.1 0, 300, .inl (f))) ∧ M' (t + 1) = some (.inr (2, [.ref (t + 2), .int (iI (0))])) ∧ M' (t + 3) = some (.inl (Γ.2.2.1 1, 100, .inl (g1))) ∧ M' (t + 4) = some (.inl (Γ.2.2.1 1, 100, .inl (g2))) ∧ M' (t + 5) = some (.inl (Γ.2.2.1 1, 100, .inl (g3))) ∧ M' (t) = some (.inr (4, [.ref (t + 1), .ref (t + 3), .ref (t + 4), .ref (t + 5), .int (iI (0))]))) := by
  refine CT.of (by decide) rfl rfl 0 rfl (Nat.le_of_ble_eq_true rfl) rfl ?_
  refine g_aload_n d_Te_copy_0 rfl ?_
  refine g_get fa_Te_12 d_Te_copy_1 p0 rfl ?_
  refine g_aload_n d_Te_copy_4 rfl ?_
  refine g_get fa_Te_12 d_Te_copy_5 p6 rfl ?_
  refine g_callV1 (ν := k_Ro_copy0) ⟨w_226, w_31, w_229, by decide, by decide, by decide +kernel⟩ w_227 w_228 (c_Ro_copy0 Γ (t + 1) (o + 1) (z) (f) (g) (by omega) p1 p2 p7 p8) d_Te_copy_8 p1 rfl rfl ⟨⟨by decide, by decide⟩, ⟨by decide, by decide⟩⟩ (Nat.le_of_ble_eq_true rfl) (fun v1 M1 n1 hQ1 hn1 hd1 => ?_)
  obtain ⟨rfl, hf1, rfl, hw1_0, hw1_1⟩ := hQ1
  refine g_aload_n d_Te_copy_11 rfl ?_
  refine g_get fa_Te_18 d_Te_copy_12 ((hf1 (o) (by omega) (by omega)).trans p6) rfl ?_
  refine g_iconst d_Te_copy_15 ?_
  refine g_aload_n d_Te_copy_16 rfl ?_
  refine g_get fa_Te_18 d_Te_copy_17 ((hf1 (t) (by omega) (by omega)).trans p0) rfl ?_
  refine g_iconst d_Te_copy_20 ?_
  refine g_aload_n d_Te_copy_21 rfl ?_
  refine g_get fa_Te_28 d_Te_copy_22 ((hf1 (o) (by omega) (by omega)).trans p6) rfl ?_
  refine g_copy (sp := 0) (dp := 0) (k := 0) 1 rfl (by decide) d_Te_copy_25 w_585 w_232 w_231 w_37 ((hf1 (o + 3) (by omega) (by omega)).trans p9) ((hf1 (t + 3) (by omega) (by omega)).trans p3) (by omega) (by omega) (by omega) (by omega) (fun i hi => absurd hi (by omega)) (by decide) (Nat.le_of_ble_eq_true rfl) ?_
  rw [va_cpy0]
  refine g_aload_n d_Te_copy_28 rfl ?_
  refine g_get fa_Te_22 d_Te_copy_29 ((hu_ne (by omega)).trans ((hf1 (o) (by omega) (by omega)).trans p6)) rfl ?_
  refine g_iconst d_Te_copy_32 ?_
  refine g_aload_n d_Te_copy_33 rfl ?_
  refine g_get fa_Te_22 d_Te_copy_34 ((hu_ne (by omega)).trans ((hf1 (t) (by omega) (by omega)).trans p0)) rfl ?_
  refine g_iconst d_Te_copy_37 ?_
  refine g_aload_n d_Te_copy_38 rfl ?_
  refine g_get fa_Te_28 d_Te_copy_39 ((hu_ne (by omega)).trans ((hf1 (o) (by omega) (by omega)).trans p6)) rfl ?_
  refine g_copy (sp := 0) (dp := 0) (k := 0) 1 rfl (by decide) d_Te_copy_42 w_585 w_232 w_231 w_37 ((hu_ne (by omega)).trans ((hf1 (o + 4) (by omega) (by omega)).trans p10)) ((hu_ne (by omega)).trans ((hf1 (t + 4) (by omega) (by omega)).trans p4)) (by omega) (by omega) (by omega) (by omega) (fun i hi => absurd hi (by omega)) (by decide) (Nat.le_of_ble_eq_true rfl) ?_
  rw [va_cpy0]
  refine g_aload_n d_Te_copy_45 rfl ?_
  refine g_get fa_Te_25 d_Te_copy_46 ((hu_ne (by omega)).trans ((hu_ne (by omega)).trans ((hf1 (o) (by omega) (by omega)).trans p6))) rfl ?_
  refine g_iconst d_Te_copy_49 ?_
  refine g_aload_n d_Te_copy_50 rfl ?_
  refine g_get fa_Te_25 d_Te_copy_51 ((hu_ne (by omega)).trans ((hu_ne (by omega)).trans ((hf1 (t) (by omega) (by omega)).trans p0))) rfl ?_
  refine g_iconst d_Te_copy_54 ?_
  refine g_aload_n d_Te_copy_55 rfl ?_
  refine g_get fa_Te_28 d_Te_copy_56 ((hu_ne (by omega)).trans ((hu_ne (by omega)).trans ((hf1 (o) (by omega) (by omega)).trans p6))) rfl ?_
  refine g_copy (sp := 0) (dp := 0) (k := 0) 1 rfl (by decide) d_Te_copy_59 w_585 w_232 w_231 w_37 ((hu_ne (by omega)).trans ((hu_ne (by omega)).trans ((hf1 (o + 5) (by omega) (by omega)).trans p11))) ((hu_ne (by omega)).trans ((hu_ne (by omega)).trans ((hf1 (t + 5) (by omega) (by omega)).trans p5))) (by omega) (by omega) (by omega) (by omega) (fun i hi => absurd hi (by omega)) (by decide) (Nat.le_of_ble_eq_true rfl) ?_
  rw [va_cpy0]
  refine g_aload_n d_Te_copy_62 rfl ?_
  refine g_aload_n d_Te_copy_63 rfl ?_
  refine g_get fa_Te_28 d_Te_copy_64 ((hu_ne (by omega)).trans ((hu_ne (by omega)).trans ((hu_ne (by omega)).trans ((hf1 (o) (by omega) (by omega)).trans p6)))) rfl ?_
  refine g_put fa_Te_28 d_Te_copy_67 ((hu_ne (by omega)).trans ((hu_ne (by omega)).trans ((hu_ne (by omega)).trans ((hf1 (t) (by omega) (by omega)).trans p0)))) (Nat.le_of_ble_eq_true rfl) rfl rfl rfl ?_
  refine g_vret d_Te_copy_70 rfl ?_ (by decide) (by decide)
  exact ⟨rfl, fun q e0 e1 e2 e3 e4 e5 => ((hu_ne (by omega)).trans ((hu_ne (by omega)).trans ((hu_ne (by omega)).trans ((hu_ne (by omega)).trans ((hf1 q (by omega) (by omega)).trans rfl))))), rfl, ((hu_ne (by omega)).trans ((hu_ne (by omega)).trans ((hu_ne (by omega)).trans ((hu_ne (by omega)).trans hw1_0)))), ((hu_ne (by omega)).trans ((hu_ne (by omega)).trans ((hu_ne (by omega)).trans ((hu_ne (by omega)).trans hw1_1)))), ((hu_ne (by omega)).trans ((hu_ne (by omega)).trans ((hu_ne (by omega)).trans (hu_same _ _ _)))), ((hu_ne (by omega)).trans ((hu_ne (by omega)).trans (hu_same _ _ _))), ((hu_ne (by omega)).trans (hu_same _ _ _)), (hu_same _ _ _)⟩
def k_Ro_makeSmall0 : MS := ("VaryStore$Row", b_Ro_makeSmall, 4, none, "makeSmall", { frames := 1, cells := 0, slots := 0, locals := 13 }, [])
set_option maxRecDepth 100000 in
set_option maxHeartbeats 4000000 in
theorem c_Ro_makeSmall0 (Γ : GE) (a : Nat) (x : Nat) {M : HM} {n : Nat}  (p0 : M (a) = some (.inr (2, [.ref (x), .int (iI (0))]))) : CT Γ k_Ro_makeSmall0 y_Ro_makeSmall [.ref (a), .int (iI (0)), .int (iI (0))] M (n) (fun v M' n' => n = n' ∧ (∀ q, M' q = M q) ∧ v = none) := by
  refine CT.of (by decide) rfl rfl 1 rfl (Nat.le_of_ble_eq_true rfl) rfl ?_
  refine g_iconst d_Ro_makeSmall_0 ?_
  refine g_iload_n d_Ro_makeSmall_1 rfl ?_
  refine g_max d_Ro_makeSmall_2 w_254 w_255 w_38 w_256 (by decide) (Nat.le_of_ble_eq_true rfl) (by decide) (by decide) (by omega) (by omega) (by omega) (by omega) ?_
  refine g_istore_n d_Ro_makeSmall_5 (by decide) rfl ?_
  refine g_iload_n d_Ro_makeSmall_6 rfl ?_
  refine g_iload_n d_Ro_makeSmall_7 rfl ?_
  refine g_icmp_ge (tgt := 40) d_Ro_makeSmall_8 (by decide) (fun _ => ?_) (fun h1 => False.elim (by omega))
  refine g_vret d_Ro_makeSmall_40 rfl ?_ (by decide) (by decide)
  exact ⟨rfl, fun q  => rfl, rfl⟩
def k_It_makeSmall0 : MS := ("VaryStore$Items", b_It_makeSmall, 1, none, "makeSmall", { frames := 2, cells := 0, slots := 0, locals := 36 }, [])
set_option maxRecDepth 100000 in
set_option maxHeartbeats 4000000 in
theorem c_It_makeSmall0 (Γ : GE) (s : Nat) (e : Nat) (cc : Int) (x : Nat) {M : HM} {n : Nat}  (p0 : M (s) = some (.inr (1, [.ref (s + 1), .ref (e), .int (iI (cc))]))) (p1 : M (s + 1) = some (.inr (2, [.ref (x), .int (iI (0))]))) : CT Γ k_It_makeSmall0 y_It_makeSmall [.ref (s)] M (n) (fun v M' n' => n = n' ∧ (∀ q, M' q = M q) ∧ v = none) := by
  refine CT.of (by decide) rfl rfl 0 rfl (Nat.le_of_ble_eq_true rfl) rfl ?_
  refine g_aload_n d_It_makeSmall_0 rfl ?_
  refine g_get fa_It_12 d_It_makeSmall_1 p0 rfl ?_
  refine g_iconst d_It_makeSmall_4 ?_
  refine g_aload_n d_It_makeSmall_5 rfl ?_
  refine g_get fa_It_12 d_It_makeSmall_6 p0 rfl ?_
  refine g_get fa_It_29 d_It_makeSmall_9 p1 rfl ?_
  refine g_callV2 (ν := k_Ro_makeSmall0) ⟨w_593, w_31, w_253, by decide, by decide, by decide +kernel⟩ w_251 w_252 (c_Ro_makeSmall0 Γ (s + 1) (x)  p1) d_It_makeSmall_12 p1 rfl rfl ⟨⟨by decide, by decide⟩, ⟨by decide, by decide⟩⟩ (Nat.le_of_ble_eq_true rfl) (fun v1 M1 n1 hQ1 hn1 hd1 => ?_)
  obtain ⟨rfl, hf1, rfl⟩ := hQ1
  refine g_vret d_It_makeSmall_15 rfl ?_ (by decide) (by decide)
  exact ⟨rfl, fun q  => ((hf1 q ).trans rfl), rfl⟩
def k_Sh_spare0 : MS := ("VaryStore$Shelf", b_Sh_spare, 2, (some (.object "VaryStore$Thing")), "spare", { frames := 4, cells := 13, slots := 1377, locals := 72 }, [])
set_option maxRecDepth 100000 in
set_option maxHeartbeats 4000000 in
theorem c_Sh_spare0 (Γ : GE) (s : Nat) (cc : Int) (u : Int) {M : HM} {n : Nat} (hsn : s + 2 ≤ n) (p0 : M (s) = some (.inr (3, [.ref (s + 1), .int (iI (cc)), .int (iI (u))]))) (p1 : M (s + 1) = some (.inl (Γ.2.2.1 2, 25, .inr (.inr (.inr (.inr (fun _ => none))))))) : CT Γ k_Sh_spare0 y_Sh_spare [.ref (s)] M (n) (fun v M' n' => n + 13 = n' ∧ (∀ q, q ≠ n → q ≠ n + 1 → q ≠ n + 2 → q ≠ n + 3 → q ≠ n + 4 → q ≠ n + 5 → q ≠ n + 6 → q ≠ n + 7 → q ≠ n + 8 → q ≠ n + 9 → q ≠ n + 10 → q ≠ n + 11 → q ≠ n + 12 → q ≠ s + 1 → M' q = M q) ∧ v = some (.ref (n)) ∧ M' (n) = some (.inr (5, [.ref (n + 1), .ref (n + 3), .ref (n + 7), .int (iI (0)), .int (iI ((-2))), .int (iI ((-2))), .int (iI (0)), .int (iI (0)), .int (iI (0)), .int (iI (0)), .int (iI (0)), .int (iI (0)), .int (iI (0))])) ∧ M' (n + 1) = some (.inr (2, [.ref (n + 2), .int (iI (0))])) ∧ M' (n + 2) = some (.inl (Γ.2.2.1 0, 300, .inl (fun _ => iI 0))) ∧ M' (n + 3) = some (.inr (1, [.ref (n + 4), .ref (n + 6), .int (iI (0))])) ∧ M' (n + 4) = some (.inr (2, [.ref (n + 5), .int (iI (0))])) ∧ M' (n + 5) = some (.inl (Γ.2.2.1 0, 300, .inl (fun _ => iI 0))) ∧ M' (n + 6) = some (.inl (Γ.2.2.1 1, 150, .inl (fun _ => iI 0))) ∧ M' (n + 7) = some (.inr (4, [.ref (n + 8), .ref (n + 10), .ref (n + 11), .ref (n + 12), .int (iI (0))])) ∧ M' (n + 8) = some (.inr (2, [.ref (n + 9), .int (iI (0))])) ∧ M' (n + 9) = some (.inl (Γ.2.2.1 0, 300, .inl (fun _ => iI 0))) ∧ M' (n + 10) = some (.inl (Γ.2.2.1 1, 100, .inl (fun _ => iI 0))) ∧ M' (n + 11) = some (.inl (Γ.2.2.1 1, 100, .inl (fun _ => iI 0))) ∧ M' (n + 12) = some (.inl (Γ.2.2.1 1, 100, .inl (fun _ => iI 0))) ∧ M' (s + 1) = some (.inl (Γ.2.2.1 2, 25, .inr (.inr (.inr (.inr (va_up (fun _ => none) (24 : Int).toNat (some (n))))))))) := by
  refine CT.of (by decide) rfl rfl 1 rfl (Nat.le_of_ble_eq_true rfl) rfl ?_
  refine g_aload_n d_Sh_spare_0 rfl ?_
  refine g_get fa_Sh_11 d_Sh_spare_1 p0 rfl ?_
  refine g_bipush d_Sh_spare_4 (by decide) ?_
  refine g_aald (v := .null) 2 rfl d_Sh_spare_6 p1 (by omega) (by omega) (by omega) (by first | rfl | simp [va_rf, va_up]) ?_
  refine g_astore_nN d_Sh_spare_7 (by decide) rfl ?_
  refine g_aload_nN d_Sh_spare_8 rfl ?_
  refine g_ifnonnullN d_Sh_spare_9 ?_
  refine g_new (ci := 5) t_Th [.null, .null, .null, .int (iI (0)), .int (iI (0)), .int (iI (0)), .int (iI (0)), .int (iI (0)), .int (iI (0)), .int (iI (0)), .int (iI (0)), .int (iI (0)), .int (iI (0))] rfl uw_Th to_Th (fun j hj => by rcases (show j = 0 ∨ j = 1 ∨ j = 2 ∨ j = 3 ∨ j = 4 ∨ j = 5 ∨ j = 6 ∨ j = 7 ∨ j = 8 ∨ j = 9 ∨ j = 10 ∨ j = 11 ∨ j = 12 by omega) with rfl | rfl | rfl | rfl | rfl | rfl | rfl | rfl | rfl | rfl | rfl | rfl | rfl <;> rfl) d_Sh_spare_12 w_81 w_514 w_47 (by decide) (by decide) ?_
  refine g_dup d_Sh_spare_15 rfl ?_
  refine g_callIN0 (ν := k_Th_init) ⟨⟨"VaryStore", w_515⟩, w_47, w_517, by decide, by decide, by decide +kernel⟩ w_516 rfl rfl (c_Th_init Γ (n)  (hu_same _ _ _)) d_Sh_spare_16 ⟨⟨by decide, by decide⟩, ⟨by decide, by decide⟩⟩ (Nat.le_of_ble_eq_true rfl) (fun v1 M1 n1 hQ1 hn1 hd1 => ?_)
  obtain ⟨rfl, hf1, rfl, hw1_0, hw1_1, hw1_2, hw1_3, hw1_4, hw1_5, hw1_6, hw1_7, hw1_8, hw1_9, hw1_10, hw1_11, hw1_12⟩ := hQ1
  refine g_astore_n d_Sh_spare_19 (by decide) rfl ?_
  refine g_aload_n d_Sh_spare_20 rfl ?_
  refine g_get fa_Sh_11 d_Sh_spare_21 ((hf1 (s) (by omega) (by omega) (by omega) (by omega) (by omega) (by omega) (by omega) (by omega) (by omega) (by omega) (by omega) (by omega) (by omega)).trans ((hu_ne (by omega)).trans p0)) rfl ?_
  refine g_bipush d_Sh_spare_24 (by decide) ?_
  refine g_aload_n d_Sh_spare_26 rfl ?_
  refine g_aast 2 (ci := 5) rfl rfl d_Sh_spare_27 ((hf1 (s + 1) (by omega) (by omega) (by omega) (by omega) (by omega) (by omega) (by omega) (by omega) (by omega) (by omega) (by omega) (by omega) (by omega)).trans ((hu_ne (by omega)).trans p1)) hw1_2 (by omega) (by omega) (by omega) ?_
  refine g_aload_n d_Sh_spare_28 rfl ?_
  refine g_aret (rt := (.object "VaryStore$Thing")) (by first | exact Or.inl ⟨_, rfl⟩ | exact Or.inr ⟨_, rfl⟩) (by first | exact Or.inl rfl | exact Or.inr ⟨_, rfl⟩) d_Sh_spare_29 rfl ?_ (by decide) (by decide)
  exact ⟨rfl, fun q e0 e1 e2 e3 e4 e5 e6 e7 e8 e9 e10 e11 e12 e13 => ((hu_ne (by omega)).trans ((hf1 q (by omega) (by omega) (by omega) (by omega) (by omega) (by omega) (by omega) (by omega) (by omega) (by omega) (by omega) (by omega) (by omega)).trans ((hu_ne (by omega)).trans rfl))), rfl, ((hu_ne (by omega)).trans hw1_2), ((hu_ne (by omega)).trans hw1_0), ((hu_ne (by omega)).trans hw1_1), ((hu_ne (by omega)).trans hw1_3), ((hu_ne (by omega)).trans hw1_4), ((hu_ne (by omega)).trans hw1_5), ((hu_ne (by omega)).trans hw1_6), ((hu_ne (by omega)).trans hw1_7), ((hu_ne (by omega)).trans hw1_8), ((hu_ne (by omega)).trans hw1_9), ((hu_ne (by omega)).trans hw1_10), ((hu_ne (by omega)).trans hw1_11), ((hu_ne (by omega)).trans hw1_12), (hu_same _ _ _)⟩
def k_Th_obey0 : MS := ("VaryStore$Thing", b_Th_obey, 2, none, "obey", { frames := 2, cells := 0, slots := 0, locals := 45 }, [])
set_option maxRecDepth 100000 in
set_option maxHeartbeats 4000000 in
theorem c_Th_obey0 (Γ : GE) (t : Nat) (s : Nat) (ph : Int) (t1 : Int) (t2 : Int) (t3 : Int) (t4 : Int) (t5 : Int) (t6 : Int) (t7 : Int) (t8 : Int) (t9 : Int) (r : Nat) (e : Nat) {M : HM} {n : Nat} (hts : t ≠ s) (p0 : M (t) = some (.inr (5, [.ref (t + 1), .ref (t + 3), .ref (t + 7), .int (iI (ph)), .int (iI (t1)), .int (iI (t2)), .int (iI (t3)), .int (iI (t4)), .int (iI (t5)), .int (iI (t6)), .int (iI (t7)), .int (iI (t8)), .int (iI (t9))]))) (p1 : M (s) = some (.inr (1, [.ref (r), .ref (e), .int (iI (0))]))) : CT Γ k_Th_obey0 y_Th_obey [.ref (t), .ref (s)] M (n) (fun v M' n' => n = n' ∧ (∀ q, q ≠ t → M' q = M q) ∧ v = none ∧ M' (t) = some (.inr (5, [.ref (t + 1), .ref (t + 3), .ref (t + 7), .int (iI (ph)), .int (iI ((-2))), .int (iI ((-2))), .int (iI (0)), .int (iI (0)), .int (iI (0)), .int (iI (t6)), .int (iI (t7)), .int (iI (t8)), .int (iI (t9))]))) := by
  refine CT.of (by decide) rfl rfl 0 rfl (Nat.le_of_ble_eq_true rfl) rfl ?_
  refine g_aload_n d_Th_obey_0 rfl ?_
  refine g_aload_n d_Th_obey_1 rfl ?_
  refine g_ldcS (text := "s-maxage") (lit := 18) (by decide) d_Th_obey_2 ?_
  refine g_callV1 (ν := k_It_said0) ⟨w_599, w_34, w_469, by decide, by decide, by decide +kernel⟩ w_467 w_468 (c_It_said0 Γ (s) (18) (r) (e)  p1) d_Th_obey_4 p1 rfl rfl ⟨⟨by decide, by decide⟩, ⟨by decide, by decide⟩⟩ (Nat.le_of_ble_eq_true rfl) (fun v1 M1 n1 hQ1 hn1 hd1 => ?_)
  obtain ⟨rfl, hf1, rfl⟩ := hQ1
  refine g_put fa_Th_36 d_Th_obey_7 ((hf1 (t) ).trans p0) (Nat.le_of_ble_eq_true rfl) rfl rfl rfl ?_
  refine g_aload_n d_Th_obey_10 rfl ?_
  refine g_aload_n d_Th_obey_11 rfl ?_
  refine g_ldcS (text := "max-age") (lit := 14) (by decide) d_Th_obey_12 ?_
  refine g_callV1 (ν := k_It_said0) ⟨w_599, w_34, w_469, by decide, by decide, by decide +kernel⟩ w_467 w_468 (c_It_said0 Γ (s) (14) (r) (e)  ((hu_ne (by omega)).trans ((hf1 (s) ).trans p1))) d_Th_obey_14 ((hu_ne (by omega)).trans ((hf1 (s) ).trans p1)) rfl rfl ⟨⟨by decide, by decide⟩, ⟨by decide, by decide⟩⟩ (Nat.le_of_ble_eq_true rfl) (fun v2 M2 n2 hQ2 hn2 hd2 => ?_)
  obtain ⟨rfl, hf2, rfl⟩ := hQ2
  refine g_put fa_Th_39 d_Th_obey_17 ((hf2 (t) ).trans (hu_same _ _ _)) (Nat.le_of_ble_eq_true rfl) rfl rfl rfl ?_
  refine g_aload_n d_Th_obey_20 rfl ?_
  refine g_aload_n d_Th_obey_21 rfl ?_
  refine g_ldcS (text := "no-store") (lit := 13) (by decide) d_Th_obey_22 ?_
  refine g_callV1 (ν := k_It_has0) ⟨w_602, w_34, w_489, by decide, by decide, by decide +kernel⟩ w_487 w_488 (c_It_has0 Γ (s) (13) (r) (e)  ((hu_ne (by omega)).trans ((hf2 (s) ).trans ((hu_ne (by omega)).trans ((hf1 (s) ).trans p1))))) d_Th_obey_24 ((hu_ne (by omega)).trans ((hf2 (s) ).trans ((hu_ne (by omega)).trans ((hf1 (s) ).trans p1)))) rfl rfl ⟨⟨by decide, by decide⟩, ⟨by decide, by decide⟩⟩ (Nat.le_of_ble_eq_true rfl) (fun v3 M3 n3 hQ3 hn3 hd3 => ?_)
  obtain ⟨rfl, hf3, rfl⟩ := hQ3
  refine g_if_ne (tgt := 39) d_Th_obey_27 (by decide) (fun h4 => False.elim (by omega)) (fun _ => ?_)
  refine g_aload_n d_Th_obey_30 rfl ?_
  refine g_ldcS (text := "private") (lit := 19) (by decide) d_Th_obey_31 ?_
  refine g_callV1 (ν := k_It_has0) ⟨w_602, w_34, w_489, by decide, by decide, by decide +kernel⟩ w_487 w_488 (c_It_has0 Γ (s) (19) (r) (e)  ((hf3 (s) ).trans ((hu_ne (by omega)).trans ((hf2 (s) ).trans ((hu_ne (by omega)).trans ((hf1 (s) ).trans p1)))))) d_Th_obey_33 ((hf3 (s) ).trans ((hu_ne (by omega)).trans ((hf2 (s) ).trans ((hu_ne (by omega)).trans ((hf1 (s) ).trans p1))))) rfl rfl ⟨⟨by decide, by decide⟩, ⟨by decide, by decide⟩⟩ (Nat.le_of_ble_eq_true rfl) (fun v5 M5 n5 hQ5 hn5 hd5 => ?_)
  obtain ⟨rfl, hf5, rfl⟩ := hQ5
  refine g_if_eq (tgt := 43) d_Th_obey_36 (by decide) (fun _ => ?_) (fun h6 => False.elim (by omega))
  refine g_iconst d_Th_obey_43 ?_
  refine g_put fa_Th_42 d_Th_obey_44 ((hf5 (t) ).trans ((hf3 (t) ).trans (hu_same _ _ _))) (Nat.le_of_ble_eq_true rfl) rfl (by first | rfl | decide) rfl ?_
  refine g_aload_n d_Th_obey_47 rfl ?_
  refine g_aload_n d_Th_obey_48 rfl ?_
  refine g_ldcS (text := "no-cache") (lit := 15) (by decide) d_Th_obey_49 ?_
  refine g_callV1 (ν := k_It_has0) ⟨w_602, w_34, w_489, by decide, by decide, by decide +kernel⟩ w_487 w_488 (c_It_has0 Γ (s) (15) (r) (e)  ((hu_ne (by omega)).trans ((hf5 (s) ).trans ((hf3 (s) ).trans ((hu_ne (by omega)).trans ((hf2 (s) ).trans ((hu_ne (by omega)).trans ((hf1 (s) ).trans p1)))))))) d_Th_obey_51 ((hu_ne (by omega)).trans ((hf5 (s) ).trans ((hf3 (s) ).trans ((hu_ne (by omega)).trans ((hf2 (s) ).trans ((hu_ne (by omega)).trans ((hf1 (s) ).trans p1))))))) rfl rfl ⟨⟨by decide, by decide⟩, ⟨by decide, by decide⟩⟩ (Nat.le_of_ble_eq_true rfl) (fun v7 M7 n7 hQ7 hn7 hd7 => ?_)
  obtain ⟨rfl, hf7, rfl⟩ := hQ7
  refine g_put fa_Th_46 d_Th_obey_54 ((hf7 (t) ).trans (hu_same _ _ _)) (Nat.le_of_ble_eq_true rfl) rfl (by first | rfl | decide) rfl ?_
  refine g_aload_n d_Th_obey_57 rfl ?_
  refine g_aload_n d_Th_obey_58 rfl ?_
  refine g_get fa_Th_46 d_Th_obey_59 (hu_same _ _ _) rfl ?_
  refine g_if_ne (tgt := 92) d_Th_obey_62 (by decide) (fun h8 => False.elim (by omega)) (fun _ => ?_)
  refine g_aload_n d_Th_obey_65 rfl ?_
  refine g_get fa_Th_36 d_Th_obey_66 (hu_same _ _ _) rfl ?_
  refine g_bipush d_Th_obey_69 (by decide) ?_
  refine g_icmp_ne (tgt := 92) d_Th_obey_71 (by decide) (fun h9 => False.elim (by omega)) (fun _ => ?_)
  refine g_aload_n d_Th_obey_74 rfl ?_
  refine g_ldcS (text := "must-revalidate") (lit := 20) (by decide) d_Th_obey_75 ?_
  refine g_callV1 (ν := k_It_has0) ⟨w_602, w_34, w_489, by decide, by decide, by decide +kernel⟩ w_487 w_488 (c_It_has0 Γ (s) (20) (r) (e)  ((hu_ne (by omega)).trans ((hf7 (s) ).trans ((hu_ne (by omega)).trans ((hf5 (s) ).trans ((hf3 (s) ).trans ((hu_ne (by omega)).trans ((hf2 (s) ).trans ((hu_ne (by omega)).trans ((hf1 (s) ).trans p1)))))))))) d_Th_obey_77 ((hu_ne (by omega)).trans ((hf7 (s) ).trans ((hu_ne (by omega)).trans ((hf5 (s) ).trans ((hf3 (s) ).trans ((hu_ne (by omega)).trans ((hf2 (s) ).trans ((hu_ne (by omega)).trans ((hf1 (s) ).trans p1))))))))) rfl rfl ⟨⟨by decide, by decide⟩, ⟨by decide, by decide⟩⟩ (Nat.le_of_ble_eq_true rfl) (fun v10 M10 n10 hQ10 hn10 hd10 => ?_)
  obtain ⟨rfl, hf10, rfl⟩ := hQ10
  refine g_if_ne (tgt := 92) d_Th_obey_80 (by decide) (fun h11 => False.elim (by omega)) (fun _ => ?_)
  refine g_aload_n d_Th_obey_83 rfl ?_
  refine g_ldcS (text := "proxy-revalidate") (lit := 21) (by decide) d_Th_obey_84 ?_
  refine g_callV1 (ν := k_It_has0) ⟨w_602, w_34, w_489, by decide, by decide, by decide +kernel⟩ w_487 w_488 (c_It_has0 Γ (s) (21) (r) (e)  ((hf10 (s) ).trans ((hu_ne (by omega)).trans ((hf7 (s) ).trans ((hu_ne (by omega)).trans ((hf5 (s) ).trans ((hf3 (s) ).trans ((hu_ne (by omega)).trans ((hf2 (s) ).trans ((hu_ne (by omega)).trans ((hf1 (s) ).trans p1))))))))))) d_Th_obey_86 ((hf10 (s) ).trans ((hu_ne (by omega)).trans ((hf7 (s) ).trans ((hu_ne (by omega)).trans ((hf5 (s) ).trans ((hf3 (s) ).trans ((hu_ne (by omega)).trans ((hf2 (s) ).trans ((hu_ne (by omega)).trans ((hf1 (s) ).trans p1)))))))))) rfl rfl ⟨⟨by decide, by decide⟩, ⟨by decide, by decide⟩⟩ (Nat.le_of_ble_eq_true rfl) (fun v12 M12 n12 hQ12 hn12 hd12 => ?_)
  obtain ⟨rfl, hf12, rfl⟩ := hQ12
  refine g_if_eq (tgt := 96) d_Th_obey_89 (by decide) (fun _ => ?_) (fun h13 => False.elim (by omega))
  refine g_iconst d_Th_obey_96 ?_
  refine g_put fa_Th_49 d_Th_obey_97 ((hf12 (t) ).trans ((hf10 (t) ).trans (hu_same _ _ _))) (Nat.le_of_ble_eq_true rfl) rfl (by first | rfl | decide) rfl ?_
  refine g_vret d_Th_obey_100 rfl ?_ (by decide) (by decide)
  exact ⟨rfl, fun q e0 => ((hu_ne (by omega)).trans ((hf12 q ).trans ((hf10 q ).trans ((hu_ne (by omega)).trans ((hf7 q ).trans ((hu_ne (by omega)).trans ((hf5 q ).trans ((hf3 q ).trans ((hu_ne (by omega)).trans ((hf2 q ).trans ((hu_ne (by omega)).trans ((hf1 q ).trans rfl)))))))))))), rfl, (hu_same _ _ _)⟩
def k_VS_describe0 : MS := ("VaryStore", b_VS_describe, 3, none, "describe", { frames := 7, cells := 0, slots := 0, locals := 153 }, [])
set_option maxRecDepth 100000 in
set_option maxHeartbeats 4000000 in
theorem c_VS_describe0 (Γ : GE) (b : Nat) (fp : Int) (tm : Int) (t : Nat) (path : Int) (ph : Int) (t1 : Int) (t2 : Int) (t3 : Int) (t4 : Int) (t5 : Int) (t6 : Int) (t7 : Int) (t8 : Int) (t9 : Int) (z : Int) (w : Int) (cc : Int) (zv : Int) (ze : Int) (ln : Int) (zt : Int) (f : Nat → Int32) (fv : Nat → Int32) (fr : Nat → Int32) (fa : Nat → Int32) (fb : Nat → Int32) (fc : Nat → Int32) (ge : Nat → Int32) (g1 : Nat → Int32) (g2 : Nat → Int32) (g3 : Nat → Int32) (g4 : Nat → Int32) (y : Nat) {M : HM} {n : Nat} (ht : b + 33 ≤ t) (p0 : M (b) = some (.inr (0, [.ref (b + 1), .ref (b + 3), .ref (b + 5), .ref (b + 11), .int (iI (fp)), .int (iI (tm)), .ref (b + 17), .ref (b + 19), .ref (b + 21), .ref (b + 25), .ref (b + 29)]))) (p1 : M (b + 5) = some (.inr (4, [.ref (b + 6), .ref (b + 8), .ref (b + 9), .ref (b + 10), .int (iI (0))]))) (p2 : M (b + 6) = some (.inr (2, [.ref (b + 7), .int (iI (0))]))) (p3 : M (b + 6 + 1) = some (.inl (Γ.2.2.1 0, 300, .inl (fr)))) (p4 : M (b + 5 + 3) = some (.inl (Γ.2.2.1 1, 100, .inl (fa)))) (p5 : M (b + 5 + 4) = some (.inl (Γ.2.2.1 1, 100, .inl (fb)))) (p6 : M (b + 5 + 5) = some (.inl (Γ.2.2.1 1, 100, .inl (fc)))) (p7 : M (b + 11) = some (.inr (4, [.ref (b + 12), .ref (b + 14), .ref (b + 15), .ref (b + 16), .int (iI (0))]))) (p8 : M (b + 17) = some (.inr (2, [.ref (b + 18), .int (iI (z))]))) (p9 : M (b + 17 + 1) = some (.inl (Γ.2.2.1 0, 300, .inl (f)))) (p10 : M (b + 19) = some (.inr (2, [.ref (b + 20), .int (iI (w))]))) (p11 : M (b + 19 + 1) = some (.inl (Γ.2.2.1 0, 300, .inl (fv)))) (p12 : M (t) = some (.inr (5, [.ref (t + 1), .ref (t + 3), .ref (t + 7), .int (iI (ph)), .int (iI (t1)), .int (iI (t2)), .int (iI (t3)), .int (iI (t4)), .int (iI (t5)), .int (iI (t6)), .int (iI (t7)), .int (iI (t8)), .int (iI (t9))]))) (p13 : M (t + 1) = some (.inr (2, [.ref (t + 2), .int (iI (ze))]))) (p14 : M (t + 1 + 1) = some (.inl (Γ.2.2.1 0, 300, .inl (ge)))) (p15 : M (t + 3) = some (.inr (1, [.ref (t + 4), .ref (t + 6), .int (iI (cc))]))) (p16 : M (t + 4) = some (.inr (2, [.ref (y), .int (iI (zv))]))) (p17 : M (t + 7) = some (.inr (4, [.ref (t + 8), .ref (t + 10), .ref (t + 11), .ref (t + 12), .int (iI (ln))]))) (p18 : M (t + 8) = some (.inr (2, [.ref (t + 9), .int (iI (zt))]))) (p19 : M (t + 8 + 1) = some (.inl (Γ.2.2.1 0, 300, .inl (g4)))) (p20 : M (t + 7 + 3) = some (.inl (Γ.2.2.1 1, 100, .inl (g1)))) (p21 : M (t + 7 + 4) = some (.inl (Γ.2.2.1 1, 100, .inl (g2)))) (p22 : M (t + 7 + 5) = some (.inl (Γ.2.2.1 1, 100, .inl (g3)))) : CT Γ k_VS_describe0 y_VS_describe [.ref (b), .ref (t), .int (iI (path))] M (n) (fun v M' n' => n = n' ∧ (∀ q, q ≠ t → q ≠ t + 9 → q ≠ t + 8 → q ≠ t + 10 → q ≠ t + 11 → q ≠ t + 12 → q ≠ t + 7 → q ≠ b + 17 → q ≠ b + 18 → q ≠ b + 19 → q ≠ t + 2 → q ≠ t + 1 → q ≠ t + 4 → q ≠ t + 3 → M' q = M q) ∧ ∃ (zs4x0 : Int) (fs4x1 : Nat → Int32), v = none ∧ 0 ≤ zs4x0 ∧ zs4x0 ≤ 40 ∧ M' (t) = some (.inr (5, [.ref (t + 1), .ref (t + 3), .ref (t + 7), .int (iI (path)), .int (iI (t1)), .int (iI (t2)), .int (iI (t3)), .int (iI (t4)), .int (iI (t5)), .int (iI (t6)), .int (iI (t7)), .int (iI (t8)), .int (iI (t9))])) ∧ M' (t + 9) = some (.inl (Γ.2.2.1 0, 300, .inl (g4))) ∧ M' (t + 8) = some (.inr (2, [.ref (t + 9), .int (iI (0))])) ∧ M' (t + 10) = some (.inl (Γ.2.2.1 1, 100, .inl (g1))) ∧ M' (t + 11) = some (.inl (Γ.2.2.1 1, 100, .inl (g2))) ∧ M' (t + 12) = some (.inl (Γ.2.2.1 1, 100, .inl (g3))) ∧ M' (t + 7) = some (.inr (4, [.ref (t + 8), .ref (t + 10), .ref (t + 11), .ref (t + 12), .int (iI (0))])) ∧ M' (b + 17) = some (.inr (2, [.ref (b + 18), .int (iI (zs4x0))])) ∧ M' (b + 18) = some (.inl (Γ.2.2.1 0, 300, .inl (fs4x1))) ∧ M' (b + 19) = some (.inr (2, [.ref (b + 20), .int (iI (0))])) ∧ M' (t + 2) = some (.inl (Γ.2.2.1 0, 300, .inl (ge))) ∧ M' (t + 1) = some (.inr (2, [.ref (t + 2), .int (iI (0))])) ∧ M' (t + 4) = some (.inr (2, [.ref (y), .int (iI (0))])) ∧ M' (t + 3) = some (.inr (1, [.ref (t + 4), .ref (t + 6), .int (iI (0))]))) := by
  refine CT.of (by decide) rfl rfl 0 rfl (Nat.le_of_ble_eq_true rfl) rfl ?_
  refine g_aload_n d_VS_describe_0 rfl ?_
  refine g_iload_n d_VS_describe_1 rfl ?_
  refine g_put fa_VS_158 d_VS_describe_2 p12 (Nat.le_of_ble_eq_true rfl) rfl rfl rfl ?_
  refine g_aload_n d_VS_describe_5 rfl ?_
  refine g_get fa_VS_226 d_VS_describe_6 (hu_same _ _ _) rfl ?_
  refine g_aload_n d_VS_describe_9 rfl ?_
  refine g_get fa_VS_26 d_VS_describe_10 ((hu_ne (by omega)).trans p0) rfl ?_
  refine g_callV1 (ν := k_Te_copy0) ⟨w_581, w_33, w_584, by decide, by decide, by decide +kernel⟩ w_582 w_583 (c_Te_copy0 Γ (t + 7) (b + 5) (ln) (zt) (g4) (fr) (g1) (g2) (g3) (fa) (fb) (fc) (by omega) ((hu_ne (by omega)).trans p17) ((hu_ne (by omega)).trans p18) ((hu_ne (by omega)).trans p19) ((hu_ne (by omega)).trans p20) ((hu_ne (by omega)).trans p21) ((hu_ne (by omega)).trans p22) ((hu_ne (by omega)).trans p1) ((hu_ne (by omega)).trans p2) ((hu_ne (by omega)).trans p3) ((hu_ne (by omega)).trans p4) ((hu_ne (by omega)).trans p5) ((hu_ne (by omega)).trans p6)) d_VS_describe_13 ((hu_ne (by omega)).trans p17) rfl rfl ⟨⟨by decide, by decide⟩, ⟨by decide, by decide⟩⟩ (Nat.le_of_ble_eq_true rfl) (fun v1 M1 n1 hQ1 hn1 hd1 => ?_)
  obtain ⟨rfl, hf1, rfl, hw1_0, hw1_1, hw1_2, hw1_3, hw1_4, hw1_5⟩ := hQ1
  refine g_aload_n d_VS_describe_16 rfl ?_
  refine g_aload_n d_VS_describe_17 rfl ?_
  refine g_get fa_VS_30 d_VS_describe_18 ((hf1 (b) (by omega) (by omega) (by omega) (by omega) (by omega) (by omega)).trans ((hu_ne (by omega)).trans p0)) rfl ?_
  refine g_ldcS (text := "etag") (lit := 2) (by decide) d_VS_describe_21 ?_
  refine g_callV2 (ν := k_VS_gather0) ⟨w_334, w_30, w_337, by decide, by decide, by decide +kernel⟩ w_336 w_5 (c_VS_gather0 Γ (b) (b + 5) (b + 11) (fp) (tm) (b + 11) (2) (z) (f) (w) (b + 20) (by first | omega | decide | (have h9 := lenLit_le 2; omega)) (by first | omega | decide | (have h9 := lenLit_le 2; omega)) ((hf1 (b) (by omega) (by omega) (by omega) (by omega) (by omega) (by omega)).trans ((hu_ne (by omega)).trans p0)) ((hf1 (b + 17) (by omega) (by omega) (by omega) (by omega) (by omega) (by omega)).trans ((hu_ne (by omega)).trans p8)) ((hf1 (b + 17 + 1) (by omega) (by omega) (by omega) (by omega) (by omega) (by omega)).trans ((hu_ne (by omega)).trans p9)) ((hf1 (b + 19) (by omega) (by omega) (by omega) (by omega) (by omega) (by omega)).trans ((hu_ne (by omega)).trans p10)) ((hf1 ((b + 11)) (by omega) (by omega) (by omega) (by omega) (by omega) (by omega)).trans ((hu_ne (by omega)).trans p7))) d_VS_describe_23 ((hf1 (b) (by omega) (by omega) (by omega) (by omega) (by omega) (by omega)).trans ((hu_ne (by omega)).trans p0)) rfl rfl ⟨⟨by decide, by decide⟩, ⟨by decide, by decide⟩⟩ (Nat.le_of_ble_eq_true rfl) (fun v2 M2 n2 hQ2 hn2 hd2 => ?_)
  obtain ⟨rfl, hf2, zs2x0, fs2x1, rfl, hb2_zs2x0_0, hb2_zs2x0_1, hw2_0, hw2_1, hw2_2⟩ := hQ2
  refine g_pop d_VS_describe_26 rfl ?_
  refine g_aload_n d_VS_describe_27 rfl ?_
  refine g_get fa_VS_149 d_VS_describe_28 ((hf2 (t) (by omega) (by omega) (by omega)).trans ((hf1 (t) (by omega) (by omega) (by omega) (by omega) (by omega) (by omega)).trans (hu_same _ _ _))) rfl ?_
  refine g_aload_n d_VS_describe_31 rfl ?_
  refine g_get fa_VS_43 d_VS_describe_32 ((hf2 (b) (by omega) (by omega) (by omega)).trans ((hf1 (b) (by omega) (by omega) (by omega) (by omega) (by omega) (by omega)).trans ((hu_ne (by omega)).trans p0))) rfl ?_
  refine g_callV1 (ν := k_Ro_copy0) ⟨w_587, w_31, w_229, by decide, by decide, by decide +kernel⟩ w_227 w_228 (c_Ro_copy0 Γ (t + 1) (b + 19) (ze) (ge) (fv) (by omega) ((hf2 ((t + 1)) (by omega) (by omega) (by omega)).trans ((hf1 ((t + 1)) (by omega) (by omega) (by omega) (by omega) (by omega) (by omega)).trans ((hu_ne (by omega)).trans p13))) ((hf2 ((t + 1) + 1) (by omega) (by omega) (by omega)).trans ((hf1 ((t + 1) + 1) (by omega) (by omega) (by omega) (by omega) (by omega) (by omega)).trans ((hu_ne (by omega)).trans p14))) hw2_2 ((hf2 ((b + 19) + 1) (by omega) (by omega) (by omega)).trans ((hf1 ((b + 19) + 1) (by omega) (by omega) (by omega) (by omega) (by omega) (by omega)).trans ((hu_ne (by omega)).trans p11)))) d_VS_describe_35 ((hf2 (t + 1) (by omega) (by omega) (by omega)).trans ((hf1 (t + 1) (by omega) (by omega) (by omega) (by omega) (by omega) (by omega)).trans ((hu_ne (by omega)).trans p13))) rfl rfl ⟨⟨by decide, by decide⟩, ⟨by decide, by decide⟩⟩ (Nat.le_of_ble_eq_true rfl) (fun v3 M3 n3 hQ3 hn3 hd3 => ?_)
  obtain ⟨rfl, hf3, rfl, hw3_0, hw3_1⟩ := hQ3
  refine g_aload_n d_VS_describe_38 rfl ?_
  refine g_aload_n d_VS_describe_39 rfl ?_
  refine g_get fa_VS_30 d_VS_describe_40 ((hf3 (b) (by omega) (by omega)).trans ((hf2 (b) (by omega) (by omega) (by omega)).trans ((hf1 (b) (by omega) (by omega) (by omega) (by omega) (by omega) (by omega)).trans ((hu_ne (by omega)).trans p0)))) rfl ?_
  refine g_ldcS (text := "vary") (lit := 8) (by decide) d_VS_describe_43 ?_
  refine g_aload_n d_VS_describe_45 rfl ?_
  refine g_get fa_VS_184 d_VS_describe_46 ((hf3 (t) (by omega) (by omega)).trans ((hf2 (t) (by omega) (by omega) (by omega)).trans ((hf1 (t) (by omega) (by omega) (by omega) (by omega) (by omega) (by omega)).trans (hu_same _ _ _)))) rfl ?_
  refine g_callV3 (ν := k_VS_cutList0) ⟨w_330, w_30, w_333, by decide, by decide, by decide +kernel⟩ w_332 w_4 (c_VS_cutList0 Γ (b) (b + 5) (b + 11) (fp) (tm) (b + 11) (8) (t + 3) (zs2x0) (fs2x1) (0) (b + 20) (cc) (zv) (y) (t + 6) (by first | omega | decide | (have h9 := lenLit_le 8; omega)) (by first | omega | decide | (have h9 := lenLit_le 8; omega)) (by first | omega | decide | (have h9 := lenLit_le 8; omega)) ((hf3 (b) (by omega) (by omega)).trans ((hf2 (b) (by omega) (by omega) (by omega)).trans ((hf1 (b) (by omega) (by omega) (by omega) (by omega) (by omega) (by omega)).trans ((hu_ne (by omega)).trans p0)))) ((hf3 (b + 17) (by omega) (by omega)).trans hw2_0) ((hf3 (b + 17 + 1) (by omega) (by omega)).trans hw2_1) ((hf3 (b + 19) (by omega) (by omega)).trans hw2_2) ((hf3 ((b + 11)) (by omega) (by omega)).trans ((hf2 ((b + 11)) (by omega) (by omega) (by omega)).trans ((hf1 ((b + 11)) (by omega) (by omega) (by omega) (by omega) (by omega) (by omega)).trans ((hu_ne (by omega)).trans p7)))) ((hf3 ((t + 3)) (by omega) (by omega)).trans ((hf2 ((t + 3)) (by omega) (by omega) (by omega)).trans ((hf1 ((t + 3)) (by omega) (by omega) (by omega) (by omega) (by omega) (by omega)).trans ((hu_ne (by omega)).trans p15)))) ((hf3 ((t + 3) + 1) (by omega) (by omega)).trans ((hf2 ((t + 3) + 1) (by omega) (by omega) (by omega)).trans ((hf1 ((t + 3) + 1) (by omega) (by omega) (by omega) (by omega) (by omega) (by omega)).trans ((hu_ne (by omega)).trans p16))))) d_VS_describe_49 ((hf3 (b) (by omega) (by omega)).trans ((hf2 (b) (by omega) (by omega) (by omega)).trans ((hf1 (b) (by omega) (by omega) (by omega) (by omega) (by omega) (by omega)).trans ((hu_ne (by omega)).trans p0)))) rfl rfl ⟨⟨by decide, by decide⟩, ⟨by decide, by decide⟩⟩ (Nat.le_of_ble_eq_true rfl) (fun v4 M4 n4 hQ4 hn4 hd4 => ?_)
  obtain ⟨rfl, hf4, zs4x0, fs4x1, rfl, hb4_zs4x0_0, hb4_zs4x0_1, hw4_0, hw4_1, hw4_2, hw4_3, hw4_4⟩ := hQ4
  refine g_pop d_VS_describe_52 rfl ?_
  refine g_aload_n d_VS_describe_53 rfl ?_
  refine g_get fa_VS_184 d_VS_describe_54 ((hf4 (t) (by omega) (by omega) (by omega) (by omega) (by omega)).trans ((hf3 (t) (by omega) (by omega)).trans ((hf2 (t) (by omega) (by omega) (by omega)).trans ((hf1 (t) (by omega) (by omega) (by omega) (by omega) (by omega) (by omega)).trans (hu_same _ _ _))))) rfl ?_
  refine g_callV0 (ν := k_It_makeSmall0) ⟨w_589, w_34, w_592, by decide, by decide, by decide +kernel⟩ w_590 w_591 (c_It_makeSmall0 Γ (t + 3) (t + 6) (0) (y)  hw4_4 hw4_3) d_VS_describe_57 hw4_4 rfl rfl ⟨⟨by decide, by decide⟩, ⟨by decide, by decide⟩⟩ (Nat.le_of_ble_eq_true rfl) (fun v5 M5 n5 hQ5 hn5 hd5 => ?_)
  obtain ⟨rfl, hf5, rfl⟩ := hQ5
  refine g_vret d_VS_describe_60 rfl ?_ (by decide) (by decide)
  exact ⟨rfl, fun q e0 e1 e2 e3 e4 e5 e6 e7 e8 e9 e10 e11 e12 e13 => ((hf5 q ).trans ((hf4 q (by omega) (by omega) (by omega) (by omega) (by omega)).trans ((hf3 q (by omega) (by omega)).trans ((hf2 q (by omega) (by omega) (by omega)).trans ((hf1 q (by omega) (by omega) (by omega) (by omega) (by omega) (by omega)).trans ((hu_ne (by omega)).trans rfl)))))), zs4x0, fs4x1, rfl, hb4_zs4x0_0, hb4_zs4x0_1, ((hf5 (t) ).trans ((hf4 (t) (by omega) (by omega) (by omega) (by omega) (by omega)).trans ((hf3 (t) (by omega) (by omega)).trans ((hf2 (t) (by omega) (by omega) (by omega)).trans ((hf1 (t) (by omega) (by omega) (by omega) (by omega) (by omega) (by omega)).trans (hu_same _ _ _)))))), ((hf5 (t + 9) ).trans ((hf4 (t + 9) (by omega) (by omega) (by omega) (by omega) (by omega)).trans ((hf3 (t + 9) (by omega) (by omega)).trans ((hf2 (t + 9) (by omega) (by omega) (by omega)).trans hw1_0)))), ((hf5 (t + 8) ).trans ((hf4 (t + 8) (by omega) (by omega) (by omega) (by omega) (by omega)).trans ((hf3 (t + 8) (by omega) (by omega)).trans ((hf2 (t + 8) (by omega) (by omega) (by omega)).trans hw1_1)))), ((hf5 (t + 10) ).trans ((hf4 (t + 10) (by omega) (by omega) (by omega) (by omega) (by omega)).trans ((hf3 (t + 10) (by omega) (by omega)).trans ((hf2 (t + 10) (by omega) (by omega) (by omega)).trans hw1_2)))), ((hf5 (t + 11) ).trans ((hf4 (t + 11) (by omega) (by omega) (by omega) (by omega) (by omega)).trans ((hf3 (t + 11) (by omega) (by omega)).trans ((hf2 (t + 11) (by omega) (by omega) (by omega)).trans hw1_3)))), ((hf5 (t + 12) ).trans ((hf4 (t + 12) (by omega) (by omega) (by omega) (by omega) (by omega)).trans ((hf3 (t + 12) (by omega) (by omega)).trans ((hf2 (t + 12) (by omega) (by omega) (by omega)).trans hw1_4)))), ((hf5 (t + 7) ).trans ((hf4 (t + 7) (by omega) (by omega) (by omega) (by omega) (by omega)).trans ((hf3 (t + 7) (by omega) (by omega)).trans ((hf2 (t + 7) (by omega) (by omega) (by omega)).trans hw1_5)))), ((hf5 (b + 17) ).trans hw4_0), ((hf5 (b + 18) ).trans hw4_1), ((hf5 (b + 19) ).trans hw4_2), ((hf5 (t + 2) ).trans ((hf4 (t + 2) (by omega) (by omega) (by omega) (by omega) (by omega)).trans hw3_0)), ((hf5 (t + 1) ).trans ((hf4 (t + 1) (by omega) (by omega) (by omega) (by omega) (by omega)).trans hw3_1)), ((hf5 (t + 4) ).trans hw4_3), ((hf5 (t + 3) ).trans hw4_4)⟩
def k_VS_startLife0 : MS := ("VaryStore", b_VS_startLife, 4, none, "startLife", { frames := 7, cells := 0, slots := 0, locals := 150 }, [])
set_option maxRecDepth 100000 in
set_option maxHeartbeats 4000000 in
theorem c_VS_startLife0 (Γ : GE) (b : Nat) (fp : Int) (tm : Int) (t : Nat) (ph : Int) (t6 : Int) (t7 : Int) (t8 : Int) (t9 : Int) (z : Int) (w : Int) (f : Nat → Int32) (fv : Nat → Int32) {M : HM} {n : Nat} (ht : b + 33 ≤ t) (p0 : M (b) = some (.inr (0, [.ref (b + 1), .ref (b + 3), .ref (b + 5), .ref (b + 11), .int (iI (fp)), .int (iI (tm)), .ref (b + 17), .ref (b + 19), .ref (b + 21), .ref (b + 25), .ref (b + 29)]))) (p1 : M (b + 11) = some (.inr (4, [.ref (b + 12), .ref (b + 14), .ref (b + 15), .ref (b + 16), .int (iI (0))]))) (p2 : M (b + 17) = some (.inr (2, [.ref (b + 18), .int (iI (z))]))) (p3 : M (b + 17 + 1) = some (.inl (Γ.2.2.1 0, 300, .inl (f)))) (p4 : M (b + 19) = some (.inr (2, [.ref (b + 20), .int (iI (w))]))) (p5 : M (b + 19 + 1) = some (.inl (Γ.2.2.1 0, 300, .inl (fv)))) (p6 : M (t) = some (.inr (5, [.ref (t + 1), .ref (t + 3), .ref (t + 7), .int (iI (ph)), .int (iI ((-2))), .int (iI ((-2))), .int (iI (0)), .int (iI (0)), .int (iI (0)), .int (iI (t6)), .int (iI (t7)), .int (iI (t8)), .int (iI (t9))]))) : CT Γ k_VS_startLife0 y_VS_startLife [.ref (b), .ref (t)] M (n) (fun v M' n' => n = n' ∧ (∀ q, q ≠ b + 17 → q ≠ b + 18 → q ≠ b + 19 → q ≠ t → M' q = M q) ∧ ∃ (zs6x0 : Int) (fs6x1 : Nat → Int32), v = none ∧ 0 ≤ zs6x0 ∧ zs6x0 ≤ 40 ∧ M' (b + 17) = some (.inr (2, [.ref (b + 18), .int (iI (zs6x0))])) ∧ M' (b + 18) = some (.inl (Γ.2.2.1 0, 300, .inl (fs6x1))) ∧ M' (b + 19) = some (.inr (2, [.ref (b + 20), .int (iI (0))])) ∧ M' (t) = some (.inr (5, [.ref (t + 1), .ref (t + 3), .ref (t + 7), .int (iI (ph)), .int (iI ((-2))), .int (iI ((-2))), .int (iI (0)), .int (iI (0)), .int (iI (0)), .int (iI (0)), .int (iI ((max (0) ((-1))))), .int (iI (tm)), .int (iI (t9))]))) := by
  refine CT.of (by decide) rfl rfl 2 rfl (Nat.le_of_ble_eq_true rfl) rfl ?_
  refine g_aload_n d_VS_startLife_0 rfl ?_
  refine g_ldcS (text := "expires") (lit := 9) (by decide) d_VS_startLife_1 ?_
  refine g_callV1 (ν := k_VS_numberOf0) ⟨w_612, w_30, w_615, by decide, by decide, by decide +kernel⟩ w_614 w_14 (c_VS_numberOf0 Γ (b) (b + 5) (b + 11) (fp) (tm) (9) (z) (f) (w) (b + 20) (by first | omega | decide | (have h9 := lenLit_le 9; omega)) (by first | omega | decide | (have h9 := lenLit_le 9; omega)) p0 p2 p3 p4 p1) d_VS_startLife_3 p0 rfl rfl ⟨⟨by decide, by decide⟩, ⟨by decide, by decide⟩⟩ (Nat.le_of_ble_eq_true rfl) (fun v1 M1 n1 hQ1 hn1 hd1 => ?_)
  obtain ⟨rfl, hf1, zs1x0, fs1x1, rfl, hb1_zs1x0_0, hb1_zs1x0_1, hw1_0, hw1_1, hw1_2⟩ := hQ1
  refine g_istore_n d_VS_startLife_6 (by decide) rfl ?_
  refine g_aload_n d_VS_startLife_7 rfl ?_
  refine g_ldcS (text := "date") (lit := 10) (by decide) d_VS_startLife_8 ?_
  refine g_callV1 (ν := k_VS_numberOf0) ⟨w_612, w_30, w_615, by decide, by decide, by decide +kernel⟩ w_614 w_14 (c_VS_numberOf0 Γ (b) (b + 5) (b + 11) (fp) (tm) (10) (zs1x0) (fs1x1) (0) (b + 20) (by first | omega | decide | (have h9 := lenLit_le 10; omega)) (by first | omega | decide | (have h9 := lenLit_le 10; omega)) ((hf1 (b) (by omega) (by omega) (by omega)).trans p0) hw1_0 hw1_1 hw1_2 ((hf1 ((b + 11)) (by omega) (by omega) (by omega)).trans p1)) d_VS_startLife_10 ((hf1 (b) (by omega) (by omega) (by omega)).trans p0) rfl rfl ⟨⟨by decide, by decide⟩, ⟨by decide, by decide⟩⟩ (Nat.le_of_ble_eq_true rfl) (fun v2 M2 n2 hQ2 hn2 hd2 => ?_)
  obtain ⟨rfl, hf2, zs2x0, fs2x1, rfl, hb2_zs2x0_0, hb2_zs2x0_1, hw2_0, hw2_1, hw2_2⟩ := hQ2
  refine g_istore_n d_VS_startLife_13 (by decide) rfl ?_
  refine g_aload_n d_VS_startLife_14 rfl ?_
  refine g_get fa_VS_245 d_VS_startLife_15 ((hf2 (t) (by omega) (by omega) (by omega)).trans ((hf1 (t) (by omega) (by omega) (by omega)).trans p6)) rfl ?_
  refine g_if_lt (tgt := 32) d_VS_startLife_18 (by decide) (fun _ => ?_) (fun h3 => False.elim (by omega))
  refine g_aload_n d_VS_startLife_32 rfl ?_
  refine g_get fa_VS_248 d_VS_startLife_33 ((hf2 (t) (by omega) (by omega) (by omega)).trans ((hf1 (t) (by omega) (by omega) (by omega)).trans p6)) rfl ?_
  refine g_if_lt (tgt := 50) d_VS_startLife_36 (by decide) (fun _ => ?_) (fun h4 => False.elim (by omega))
  refine g_iload_n d_VS_startLife_50 rfl ?_
  refine g_iconst d_VS_startLife_51 ?_
  refine g_icmp_eq (tgt := 74) d_VS_startLife_52 (by decide) (fun _ => ?_) (fun h5 => False.elim (by omega))
  refine g_aload_n d_VS_startLife_74 rfl ?_
  refine g_iconst d_VS_startLife_75 ?_
  refine g_put fa_VS_178 d_VS_startLife_76 ((hf2 (t) (by omega) (by omega) (by omega)).trans ((hf1 (t) (by omega) (by omega) (by omega)).trans p6)) (Nat.le_of_ble_eq_true rfl) rfl rfl rfl ?_
  refine g_aload_n d_VS_startLife_79 rfl ?_
  refine g_iconst d_VS_startLife_80 ?_
  refine g_aload_n d_VS_startLife_81 rfl ?_
  refine g_ldcSW (text := "age") (lit := 11) (by decide) d_VS_startLife_82 ?_
  refine g_callV1 (ν := k_VS_numberOf0) ⟨w_612, w_30, w_615, by decide, by decide, by decide +kernel⟩ w_614 w_14 (c_VS_numberOf0 Γ (b) (b + 5) (b + 11) (fp) (tm) (11) (zs2x0) (fs2x1) (0) (b + 20) (by first | omega | decide | (have h9 := lenLit_le 11; omega)) (by first | omega | decide | (have h9 := lenLit_le 11; omega)) ((hu_ne (by omega)).trans ((hf2 (b) (by omega) (by omega) (by omega)).trans ((hf1 (b) (by omega) (by omega) (by omega)).trans p0))) ((hu_ne (by omega)).trans hw2_0) ((hu_ne (by omega)).trans hw2_1) ((hu_ne (by omega)).trans hw2_2) ((hu_ne (by omega)).trans ((hf2 ((b + 11)) (by omega) (by omega) (by omega)).trans ((hf1 ((b + 11)) (by omega) (by omega) (by omega)).trans p1)))) d_VS_startLife_85 ((hu_ne (by omega)).trans ((hf2 (b) (by omega) (by omega) (by omega)).trans ((hf1 (b) (by omega) (by omega) (by omega)).trans p0))) rfl rfl ⟨⟨by decide, by decide⟩, ⟨by decide, by decide⟩⟩ (Nat.le_of_ble_eq_true rfl) (fun v6 M6 n6 hQ6 hn6 hd6 => ?_)
  obtain ⟨rfl, hf6, zs6x0, fs6x1, rfl, hb6_zs6x0_0, hb6_zs6x0_1, hw6_0, hw6_1, hw6_2⟩ := hQ6
  refine g_max d_VS_startLife_88 w_618 w_255 w_38 w_256 (by decide) (Nat.le_of_ble_eq_true rfl) (by decide) (by decide) (by omega) (by omega) (by omega) (by omega) ?_
  refine g_put fa_VS_258 d_VS_startLife_91 ((hf6 (t) (by omega) (by omega) (by omega)).trans (hu_same _ _ _)) (Nat.le_of_ble_eq_true rfl) rfl rfl rfl ?_
  refine g_aload_n d_VS_startLife_94 rfl ?_
  refine g_aload_n d_VS_startLife_95 rfl ?_
  refine g_get fa_VS_37 d_VS_startLife_96 ((hu_ne (by omega)).trans ((hf6 (b) (by omega) (by omega) (by omega)).trans ((hu_ne (by omega)).trans ((hf2 (b) (by omega) (by omega) (by omega)).trans ((hf1 (b) (by omega) (by omega) (by omega)).trans p0))))) rfl ?_
  refine g_put fa_VS_260 d_VS_startLife_99 (hu_same _ _ _) (Nat.le_of_ble_eq_true rfl) rfl rfl rfl ?_
  refine g_vret d_VS_startLife_102 rfl ?_ (by decide) (by decide)
  exact ⟨rfl, fun q e0 e1 e2 e3 => ((hu_ne (by omega)).trans ((hu_ne (by omega)).trans ((hf6 q (by omega) (by omega) (by omega)).trans ((hu_ne (by omega)).trans ((hf2 q (by omega) (by omega) (by omega)).trans ((hf1 q (by omega) (by omega) (by omega)).trans rfl)))))), zs6x0, fs6x1, rfl, hb6_zs6x0_0, hb6_zs6x0_1, ((hu_ne (by omega)).trans ((hu_ne (by omega)).trans hw6_0)), ((hu_ne (by omega)).trans ((hu_ne (by omega)).trans hw6_1)), ((hu_ne (by omega)).trans ((hu_ne (by omega)).trans hw6_2)), (hu_same _ _ _)⟩
def k_VS_mayBeKept0 : MS := ("VaryStore", b_VS_mayBeKept, 2, (some .boolean), "mayBeKept", { frames := 7, cells := 0, slots := 0, locals := 153 }, [])
set_option maxRecDepth 100000 in
set_option maxHeartbeats 4000000 in
theorem c_VS_mayBeKept0 (Γ : GE) (b : Nat) (fp : Int) (tm : Int) (t : Nat) (ph : Int) (t7 : Int) (t8 : Int) (t9 : Int) (z : Int) (w : Int) (cc : Int) (zz : Int) (f : Nat → Int32) (fv : Nat → Int32) (y : Nat) (e : Nat) (x : Nat) (x2 : Nat) (x3 : Nat) {M : HM} {n : Nat} (ht : b + 33 ≤ t) (p0 : M (b) = some (.inr (0, [.ref (b + 1), .ref (b + 3), .ref (b + 5), .ref (b + 11), .int (iI (fp)), .int (iI (tm)), .ref (b + 17), .ref (b + 19), .ref (b + 21), .ref (b + 25), .ref (b + 29)]))) (p1 : M (b + 5) = some (.inr (4, [.ref (b + 6), .ref (b + 8), .ref (b + 9), .ref (b + 10), .int (iI (0))]))) (p2 : M (b + 17) = some (.inr (2, [.ref (b + 18), .int (iI (z))]))) (p3 : M (b + 17 + 1) = some (.inl (Γ.2.2.1 0, 300, .inl (f)))) (p4 : M (b + 19) = some (.inr (2, [.ref (b + 20), .int (iI (w))]))) (p5 : M (b + 19 + 1) = some (.inl (Γ.2.2.1 0, 300, .inl (fv)))) (p6 : M (b + 21) = some (.inr (1, [.ref (b + 22), .ref (e), .int (iI (cc))]))) (p7 : M (b + 22) = some (.inr (2, [.ref (y), .int (iI (zz))]))) (p8 : M (t) = some (.inr (5, [.ref (t + 1), .ref (t + 3), .ref (t + 7), .int (iI (ph)), .int (iI ((-2))), .int (iI ((-2))), .int (iI (0)), .int (iI (0)), .int (iI (0)), .int (iI (0)), .int (iI (t7)), .int (iI (t8)), .int (iI (t9))]))) (p9 : M (t + 1) = some (.inr (2, [.ref (x), .int (iI (0))]))) (p10 : M (t + 3) = some (.inr (1, [.ref (x2), .ref (x3), .int (iI (0))]))) : CT Γ k_VS_mayBeKept0 y_VS_mayBeKept [.ref (b), .ref (t)] M (n) (fun v M' n' => n = n' ∧ (∀ q, q ≠ b + 17 → q ≠ b + 18 → q ≠ b + 19 → q ≠ b + 22 → q ≠ b + 21 → M' q = M q) ∧ ∃ (zs4x0 : Int) (fs4x1 : Nat → Int32), v = some (.int (iI (0))) ∧ 0 ≤ zs4x0 ∧ zs4x0 ≤ 40 ∧ M' (b + 17) = some (.inr (2, [.ref (b + 18), .int (iI (zs4x0))])) ∧ M' (b + 18) = some (.inl (Γ.2.2.1 0, 300, .inl (fs4x1))) ∧ M' (b + 19) = some (.inr (2, [.ref (b + 20), .int (iI (0))])) ∧ M' (b + 22) = some (.inr (2, [.ref (y), .int (iI (0))])) ∧ M' (b + 21) = some (.inr (1, [.ref (b + 22), .ref (e), .int (iI (0))]))) := by
  refine CT.of (by decide) rfl rfl 0 rfl (Nat.le_of_ble_eq_true rfl) rfl ?_
  refine g_aload_n d_VS_mayBeKept_0 rfl ?_
  refine g_get fa_VS_263 d_VS_mayBeKept_1 p8 rfl ?_
  refine g_if_ne (tgt := 20) d_VS_mayBeKept_4 (by decide) (fun h1 => False.elim (by omega)) (fun _ => ?_)
  refine g_aload_n d_VS_mayBeKept_7 rfl ?_
  refine g_get fa_VS_184 d_VS_mayBeKept_8 p8 rfl ?_
  refine g_ldcSW (text := "*") (lit := 12) (by decide) d_VS_mayBeKept_11 ?_
  refine g_callV1 (ν := k_It_holds0) ⟨w_629, w_34, w_632, by decide, by decide, by decide +kernel⟩ w_630 w_631 (c_It_holds0 Γ (t + 3) (12) (x2) (x3)  p10) d_VS_mayBeKept_14 p10 rfl rfl ⟨⟨by decide, by decide⟩, ⟨by decide, by decide⟩⟩ (Nat.le_of_ble_eq_true rfl) (fun v2 M2 n2 hQ2 hn2 hd2 => ?_)
  obtain ⟨rfl, hf2, rfl⟩ := hQ2
  refine g_if_eq (tgt := 22) d_VS_mayBeKept_17 (by decide) (fun _ => ?_) (fun h3 => False.elim (by omega))
  refine g_aload_n d_VS_mayBeKept_22 rfl ?_
  refine g_aload_n d_VS_mayBeKept_23 rfl ?_
  refine g_get fa_VS_26 d_VS_mayBeKept_24 ((hf2 (b) ).trans p0) rfl ?_
  refine g_ldcS (text := "cache-control") (lit := 0) (by decide) d_VS_mayBeKept_27 ?_
  refine g_aload_n d_VS_mayBeKept_29 rfl ?_
  refine g_get fa_VS_49 d_VS_mayBeKept_30 ((hf2 (b) ).trans p0) rfl ?_
  refine g_callV3 (ν := k_VS_cutList0) ⟨w_330, w_30, w_333, by decide, by decide, by decide +kernel⟩ w_332 w_4 (c_VS_cutList0 Γ (b) (b + 5) (b + 11) (fp) (tm) (b + 5) (0) (b + 21) (z) (f) (w) (b + 20) (cc) (zz) (y) (e) (by first | omega | decide | (have h9 := lenLit_le 0; omega)) (by first | omega | decide | (have h9 := lenLit_le 0; omega)) (by first | omega | decide | (have h9 := lenLit_le 0; omega)) ((hf2 (b) ).trans p0) ((hf2 (b + 17) ).trans p2) ((hf2 (b + 17 + 1) ).trans p3) ((hf2 (b + 19) ).trans p4) ((hf2 ((b + 5)) ).trans p1) ((hf2 ((b + 21)) ).trans p6) ((hf2 ((b + 21) + 1) ).trans p7)) d_VS_mayBeKept_33 ((hf2 (b) ).trans p0) rfl rfl ⟨⟨by decide, by decide⟩, ⟨by decide, by decide⟩⟩ (Nat.le_of_ble_eq_true rfl) (fun v4 M4 n4 hQ4 hn4 hd4 => ?_)
  obtain ⟨rfl, hf4, zs4x0, fs4x1, rfl, hb4_zs4x0_0, hb4_zs4x0_1, hw4_0, hw4_1, hw4_2, hw4_3, hw4_4⟩ := hQ4
  refine g_pop d_VS_mayBeKept_36 rfl ?_
  refine g_aload_n d_VS_mayBeKept_37 rfl ?_
  refine g_get fa_VS_49 d_VS_mayBeKept_38 ((hf4 (b) (by omega) (by omega) (by omega) (by omega) (by omega)).trans ((hf2 (b) ).trans p0)) rfl ?_
  refine g_ldcSW (text := "no-store") (lit := 13) (by decide) d_VS_mayBeKept_41 ?_
  refine g_callV1 (ν := k_It_has0) ⟨w_486, w_34, w_489, by decide, by decide, by decide +kernel⟩ w_487 w_488 (c_It_has0 Γ (b + 21) (13) (b + 22) (e)  hw4_4) d_VS_mayBeKept_44 hw4_4 rfl rfl ⟨⟨by decide, by decide⟩, ⟨by decide, by decide⟩⟩ (Nat.le_of_ble_eq_true rfl) (fun v5 M5 n5 hQ5 hn5 hd5 => ?_)
  obtain ⟨rfl, hf5, rfl⟩ := hQ5
  refine g_if_eq (tgt := 52) d_VS_mayBeKept_47 (by decide) (fun _ => ?_) (fun h6 => False.elim (by omega))
  refine g_aload_n d_VS_mayBeKept_52 rfl ?_
  refine g_get fa_VS_178 d_VS_mayBeKept_53 ((hf5 (t) ).trans ((hf4 (t) (by omega) (by omega) (by omega) (by omega) (by omega)).trans ((hf2 (t) ).trans p8))) rfl ?_
  refine g_if_gt (tgt := 69) d_VS_mayBeKept_56 (by decide) (fun h7 => False.elim (by omega)) (fun _ => ?_)
  refine g_aload_n d_VS_mayBeKept_59 rfl ?_
  refine g_get fa_VS_149 d_VS_mayBeKept_60 ((hf5 (t) ).trans ((hf4 (t) (by omega) (by omega) (by omega) (by omega) (by omega)).trans ((hf2 (t) ).trans p8))) rfl ?_
  refine g_get fa_VS_59 d_VS_mayBeKept_63 ((hf5 (t + 1) ).trans ((hf4 (t + 1) (by omega) (by omega) (by omega) (by omega) (by omega)).trans ((hf2 (t + 1) ).trans p9))) rfl ?_
  refine g_if_le (tgt := 73) d_VS_mayBeKept_66 (by decide) (fun _ => ?_) (fun h8 => False.elim (by omega))
  refine g_iconst d_VS_mayBeKept_73 ?_
  refine g_zret (ty := .boolean) (by first | rfl | exact nar_char (by omega)) d_VS_mayBeKept_74 rfl ?_ (by decide) (by decide)
  exact ⟨rfl, fun q e0 e1 e2 e3 e4 => ((hf5 q ).trans ((hf4 q (by omega) (by omega) (by omega) (by omega) (by omega)).trans ((hf2 q ).trans rfl))), zs4x0, fs4x1, rfl, hb4_zs4x0_0, hb4_zs4x0_1, ((hf5 (b + 17) ).trans hw4_0), ((hf5 (b + 18) ).trans hw4_1), ((hf5 (b + 19) ).trans hw4_2), ((hf5 (b + 22) ).trans hw4_3), ((hf5 (b + 21) ).trans hw4_4)⟩
def k_VS_keep : MS := ("VaryStore", b_VS_keep, 3, (some .boolean), "keep", { frames := 8, cells := 14, slots := 1383, locals := 175 }, [])
set_option maxRecDepth 100000 in
set_option maxHeartbeats 4000000 in
theorem c_VS_keep (Γ : GE) (b : Nat) (fp : Int) (tm : Int) (path : Int) (ln : Int) (zd : Int) (z : Int) (w : Int) (cc : Int) (zz : Int) (u : Int) (f1 : Nat → Int32) (f2 : Nat → Int32) (f : Nat → Int32) (fv : Nat → Int32) (fr : Nat → Int32) (fa : Nat → Int32) (fb : Nat → Int32) (fc : Nat → Int32) (y : Nat) (e : Nat) {M : HM} {n : Nat} (pa : -2147483648 ≤ path) (pb : path < 2147483648) (hbn : b + 33 ≤ n) (p0 : M (b) = some (.inr (0, [.ref (b + 1), .ref (b + 3), .ref (b + 5), .ref (b + 11), .int (iI (fp)), .int (iI (tm)), .ref (b + 17), .ref (b + 19), .ref (b + 21), .ref (b + 25), .ref (b + 29)]))) (p1 : M (b + 1) = some (.inr (2, [.ref (b + 2), .int (iI (0))]))) (p2 : M (b + 1 + 1) = some (.inl (Γ.2.2.1 0, 300, .inl (f1)))) (p3 : M (b + 11) = some (.inr (4, [.ref (b + 12), .ref (b + 14), .ref (b + 15), .ref (b + 16), .int (iI (ln))]))) (p4 : M (b + 12) = some (.inr (2, [.ref (b + 13), .int (iI (zd))]))) (p5 : M (b + 12 + 1) = some (.inl (Γ.2.2.1 0, 300, .inl (f2)))) (p6 : M (b + 5) = some (.inr (4, [.ref (b + 6), .ref (b + 8), .ref (b + 9), .ref (b + 10), .int (iI (0))]))) (p7 : M (b + 6) = some (.inr (2, [.ref (b + 7), .int (iI (0))]))) (p8 : M (b + 6 + 1) = some (.inl (Γ.2.2.1 0, 300, .inl (fr)))) (p9 : M (b + 5 + 3) = some (.inl (Γ.2.2.1 1, 100, .inl (fa)))) (p10 : M (b + 5 + 4) = some (.inl (Γ.2.2.1 1, 100, .inl (fb)))) (p11 : M (b + 5 + 5) = some (.inl (Γ.2.2.1 1, 100, .inl (fc)))) (p12 : M (b + 17) = some (.inr (2, [.ref (b + 18), .int (iI (z))]))) (p13 : M (b + 17 + 1) = some (.inl (Γ.2.2.1 0, 300, .inl (f)))) (p14 : M (b + 19) = some (.inr (2, [.ref (b + 20), .int (iI (w))]))) (p15 : M (b + 19 + 1) = some (.inl (Γ.2.2.1 0, 300, .inl (fv)))) (p16 : M (b + 21) = some (.inr (1, [.ref (b + 22), .ref (e), .int (iI (cc))]))) (p17 : M (b + 22) = some (.inr (2, [.ref (y), .int (iI (zz))]))) (p18 : M (b + 3) = some (.inr (3, [.ref (b + 4), .int (iI (0)), .int (iI (u))]))) (p19 : M (b + 4) = some (.inl (Γ.2.2.1 2, 25, .inr (.inr (.inr (.inr (fun _ => none))))))) : CX Γ k_VS_keep y_VS_keep [.ref (b), .int (iI (path))] M (n) (fun v M' n' => n + 13 = n' ∧ (∀ q, q ≠ b + 13 → q ≠ b + 12 → q ≠ b + 11 → q ≠ b → q ≠ b + 1 → q ≠ n → q ≠ n + 1 → q ≠ n + 2 → q ≠ n + 3 → q ≠ n + 4 → q ≠ n + 5 → q ≠ n + 6 → q ≠ n + 7 → q ≠ n + 8 → q ≠ n + 9 → q ≠ n + 10 → q ≠ n + 11 → q ≠ n + 12 → q ≠ b + 4 → q ≠ b + 17 → q ≠ b + 18 → q ≠ b + 19 → q ≠ b + 22 → q ≠ b + 21 → M' q = M q) ∧ ∃ (zs9x0 : Int) (fs9x1 : Nat → Int32), v = some (.int (iI (0))) ∧ 0 ≤ zs9x0 ∧ zs9x0 ≤ 40 ∧ M' (b + 13) = some (.inl (Γ.2.2.1 0, 300, .inl (f2))) ∧ M' (b + 12) = some (.inr (2, [.ref (b + 13), .int (iI (0))])) ∧ M' (b + 11) = some (.inr (4, [.ref (b + 12), .ref (b + 14), .ref (b + 15), .ref (b + 16), .int (iI (0))])) ∧ M' (b) = some (.inr (0, [.ref (b + 1), .ref (b + 3), .ref (b + 5), .ref (b + 11), .int (iI ((-1))), .int (iI (tm)), .ref (b + 17), .ref (b + 19), .ref (b + 21), .ref (b + 25), .ref (b + 29)])) ∧ M' (b + 1) = some (.inr (2, [.ref (b + 2), .int (iI (0))])) ∧ M' (n) = some (.inr (5, [.ref (n + 1), .ref (n + 3), .ref (n + 7), .int (iI (path)), .int (iI ((-2))), .int (iI ((-2))), .int (iI (0)), .int (iI (0)), .int (iI (0)), .int (iI (0)), .int (iI ((max (0) ((-1))))), .int (iI (tm)), .int (iI (0))])) ∧ M' (n + 1) = some (.inr (2, [.ref (n + 2), .int (iI (0))])) ∧ M' (n + 2) = some (.inl (Γ.2.2.1 0, 300, .inl ((fun _ => iI 0)))) ∧ M' (n + 3) = some (.inr (1, [.ref (n + 4), .ref (n + 6), .int (iI (0))])) ∧ M' (n + 4) = some (.inr (2, [.ref (n + 5), .int (iI (0))])) ∧ M' (n + 5) = some (.inl (Γ.2.2.1 0, 300, .inl (fun _ => iI 0))) ∧ M' (n + 6) = some (.inl (Γ.2.2.1 1, 150, .inl (fun _ => iI 0))) ∧ M' (n + 7) = some (.inr (4, [.ref (n + 8), .ref (n + 10), .ref (n + 11), .ref (n + 12), .int (iI (0))])) ∧ M' (n + 8) = some (.inr (2, [.ref (n + 9), .int (iI (0))])) ∧ M' (n + 9) = some (.inl (Γ.2.2.1 0, 300, .inl ((fun _ => iI 0)))) ∧ M' (n + 10) = some (.inl (Γ.2.2.1 1, 100, .inl ((fun _ => iI 0)))) ∧ M' (n + 11) = some (.inl (Γ.2.2.1 1, 100, .inl ((fun _ => iI 0)))) ∧ M' (n + 12) = some (.inl (Γ.2.2.1 1, 100, .inl ((fun _ => iI 0)))) ∧ M' (b + 4) = some (.inl (Γ.2.2.1 2, 25, .inr (.inr (.inr (.inr (va_up (fun _ => none) (24 : Int).toNat (some (n)))))))) ∧ M' (b + 17) = some (.inr (2, [.ref (b + 18), .int (iI (zs9x0))])) ∧ M' (b + 18) = some (.inl (Γ.2.2.1 0, 300, .inl (fs9x1))) ∧ M' (b + 19) = some (.inr (2, [.ref (b + 20), .int (iI (0))])) ∧ M' (b + 22) = some (.inr (2, [.ref (y), .int (iI (0))])) ∧ M' (b + 21) = some (.inr (1, [.ref (b + 22), .ref (e), .int (iI (0))])) ∧ (0 ≤ path ∧ path < 16)) (fun C M' n' => C = "java/lang/IllegalArgumentException" ∧ n ≤ n' ∧ (∀ q, q ≠ (b + 11) + 2 → q ≠ (b + 11) + 1 → q ≠ (b + 11) → q ≠ b → q ≠ b + 1 → M' q = M q) ∧ (¬ (0 ≤ path ∧ path < 16))) := by
  refine CX.of (by decide) rfl rfl 1 rfl (Nat.le_of_ble_eq_true rfl) rfl ?_
  refine g_aload_n d_VS_keep_0 rfl ?_
  refine g_iload_n d_VS_keep_1 rfl ?_
  refine g_callVX1 (ν := k_VS_readTape) ⟨w_218, w_30, w_221, by decide, by decide, by decide +kernel⟩ w_220 w_1 (c_VS_readTape Γ (b) (b + 5) (b + 11) (fp) (tm) (path) (f1) (f2) (ln) (zd) (by omega) (by omega) (by omega) (by omega) p0 p1 p2 p3 p4 p5) d_VS_keep_2 p0 rfl rfl ⟨⟨by decide, by decide⟩, ⟨by decide, by decide⟩⟩ (Nat.le_of_ble_eq_true rfl) rfl (fun C9 M9 n9 h9 _ _ => h9) (fun v1 M1 n1 hQ1 hn1 hd1 => ?_)
  obtain ⟨rfl, hf1, rfl, hw1_0, hw1_1, hw1_2, hw1_3, hw1_4, hc1⟩ := hQ1
  refine g_aload_n d_VS_keep_5 rfl ?_
  refine g_get fa_VS_19 d_VS_keep_6 hw1_3 rfl ?_
  refine g_callV0 (ν := k_Sh_spare0) ⟨w_510, w_32, w_513, by decide, by decide, by decide +kernel⟩ w_511 w_512 (c_Sh_spare0 Γ (b + 3) (0) (u) (by omega) ((hf1 ((b + 3)) (by omega) (by omega) (by omega) (by omega) (by omega)).trans p18) ((hf1 ((b + 3) + 1) (by omega) (by omega) (by omega) (by omega) (by omega)).trans p19)) d_VS_keep_9 ((hf1 (b + 3) (by omega) (by omega) (by omega) (by omega) (by omega)).trans p18) rfl rfl ⟨⟨by decide, by decide⟩, ⟨by decide, by decide⟩⟩ (Nat.le_of_ble_eq_true rfl) (fun v2 M2 n2 hQ2 hn2 hd2 => ?_)
  obtain ⟨rfl, hf2, rfl, hw2_0, hw2_1, hw2_2, hw2_3, hw2_4, hw2_5, hw2_6, hw2_7, hw2_8, hw2_9, hw2_10, hw2_11, hw2_12, hw2_13⟩ := hQ2
  refine g_astore_n d_VS_keep_12 (by decide) rfl ?_
  refine g_aload_n d_VS_keep_13 rfl ?_
  refine g_aload_n d_VS_keep_14 rfl ?_
  refine g_iload_n d_VS_keep_15 rfl ?_
  refine g_callV2 (ν := k_VS_describe0) ⟨w_577, w_30, w_580, by decide, by decide, by decide +kernel⟩ w_579 w_12 (c_VS_describe0 Γ (b) ((-1)) (tm) (n) (path) (0) ((-2)) ((-2)) (0) (0) (0) (0) (0) (0) (0) (z) (w) (0) (0) (0) (0) (0) (f) (fv) (fr) (fa) (fb) (fc) (fun _ => iI 0) (fun _ => iI 0) (fun _ => iI 0) (fun _ => iI 0) (fun _ => iI 0) (n + 5) (by omega) ((hf2 (b) (by omega) (by omega) (by omega) (by omega) (by omega) (by omega) (by omega) (by omega) (by omega) (by omega) (by omega) (by omega) (by omega) (by omega)).trans hw1_3) ((hf2 (b + 5) (by omega) (by omega) (by omega) (by omega) (by omega) (by omega) (by omega) (by omega) (by omega) (by omega) (by omega) (by omega) (by omega) (by omega)).trans ((hf1 (b + 5) (by omega) (by omega) (by omega) (by omega) (by omega)).trans p6)) ((hf2 (b + 6) (by omega) (by omega) (by omega) (by omega) (by omega) (by omega) (by omega) (by omega) (by omega) (by omega) (by omega) (by omega) (by omega) (by omega)).trans ((hf1 (b + 6) (by omega) (by omega) (by omega) (by omega) (by omega)).trans p7)) ((hf2 (b + 6 + 1) (by omega) (by omega) (by omega) (by omega) (by omega) (by omega) (by omega) (by omega) (by omega) (by omega) (by omega) (by omega) (by omega) (by omega)).trans ((hf1 (b + 6 + 1) (by omega) (by omega) (by omega) (by omega) (by omega)).trans p8)) ((hf2 (b + 5 + 3) (by omega) (by omega) (by omega) (by omega) (by omega) (by omega) (by omega) (by omega) (by omega) (by omega) (by omega) (by omega) (by omega) (by omega)).trans ((hf1 (b + 5 + 3) (by omega) (by omega) (by omega) (by omega) (by omega)).trans p9)) ((hf2 (b + 5 + 4) (by omega) (by omega) (by omega) (by omega) (by omega) (by omega) (by omega) (by omega) (by omega) (by omega) (by omega) (by omega) (by omega) (by omega)).trans ((hf1 (b + 5 + 4) (by omega) (by omega) (by omega) (by omega) (by omega)).trans p10)) ((hf2 (b + 5 + 5) (by omega) (by omega) (by omega) (by omega) (by omega) (by omega) (by omega) (by omega) (by omega) (by omega) (by omega) (by omega) (by omega) (by omega)).trans ((hf1 (b + 5 + 5) (by omega) (by omega) (by omega) (by omega) (by omega)).trans p11)) ((hf2 (b + 11) (by omega) (by omega) (by omega) (by omega) (by omega) (by omega) (by omega) (by omega) (by omega) (by omega) (by omega) (by omega) (by omega) (by omega)).trans hw1_2) ((hf2 (b + 17) (by omega) (by omega) (by omega) (by omega) (by omega) (by omega) (by omega) (by omega) (by omega) (by omega) (by omega) (by omega) (by omega) (by omega)).trans ((hf1 (b + 17) (by omega) (by omega) (by omega) (by omega) (by omega)).trans p12)) ((hf2 (b + 17 + 1) (by omega) (by omega) (by omega) (by omega) (by omega) (by omega) (by omega) (by omega) (by omega) (by omega) (by omega) (by omega) (by omega) (by omega)).trans ((hf1 (b + 17 + 1) (by omega) (by omega) (by omega) (by omega) (by omega)).trans p13)) ((hf2 (b + 19) (by omega) (by omega) (by omega) (by omega) (by omega) (by omega) (by omega) (by omega) (by omega) (by omega) (by omega) (by omega) (by omega) (by omega)).trans ((hf1 (b + 19) (by omega) (by omega) (by omega) (by omega) (by omega)).trans p14)) ((hf2 (b + 19 + 1) (by omega) (by omega) (by omega) (by omega) (by omega) (by omega) (by omega) (by omega) (by omega) (by omega) (by omega) (by omega) (by omega) (by omega)).trans ((hf1 (b + 19 + 1) (by omega) (by omega) (by omega) (by omega) (by omega)).trans p15)) hw2_0 hw2_1 hw2_2 hw2_3 hw2_4 hw2_7 hw2_8 hw2_9 hw2_10 hw2_11 hw2_12) d_VS_keep_16 ((hf2 (b) (by omega) (by omega) (by omega) (by omega) (by omega) (by omega) (by omega) (by omega) (by omega) (by omega) (by omega) (by omega) (by omega) (by omega)).trans hw1_3) rfl rfl ⟨⟨by decide, by decide⟩, ⟨by decide, by decide⟩⟩ (Nat.le_of_ble_eq_true rfl) (fun v3 M3 n3 hQ3 hn3 hd3 => ?_)
  obtain ⟨rfl, hf3, zs3x0, fs3x1, rfl, hb3_zs3x0_0, hb3_zs3x0_1, hw3_0, hw3_1, hw3_2, hw3_3, hw3_4, hw3_5, hw3_6, hw3_7, hw3_8, hw3_9, hw3_10, hw3_11, hw3_12, hw3_13⟩ := hQ3
  refine g_aload_n d_VS_keep_19 rfl ?_
  refine g_aload_n d_VS_keep_20 rfl ?_
  refine g_get fa_VS_30 d_VS_keep_21 ((hf3 (b) (by omega) (by omega) (by omega) (by omega) (by omega) (by omega) (by omega) (by omega) (by omega) (by omega) (by omega) (by omega) (by omega) (by omega)).trans ((hf2 (b) (by omega) (by omega) (by omega) (by omega) (by omega) (by omega) (by omega) (by omega) (by omega) (by omega) (by omega) (by omega) (by omega) (by omega)).trans hw1_3)) rfl ?_
  refine g_ldcS (text := "cache-control") (lit := 0) (by decide) d_VS_keep_24 ?_
  refine g_aload_n d_VS_keep_26 rfl ?_
  refine g_get fa_VS_49 d_VS_keep_27 ((hf3 (b) (by omega) (by omega) (by omega) (by omega) (by omega) (by omega) (by omega) (by omega) (by omega) (by omega) (by omega) (by omega) (by omega) (by omega)).trans ((hf2 (b) (by omega) (by omega) (by omega) (by omega) (by omega) (by omega) (by omega) (by omega) (by omega) (by omega) (by omega) (by omega) (by omega) (by omega)).trans hw1_3)) rfl ?_
  refine g_callV3 (ν := k_VS_cutList0) ⟨w_330, w_30, w_333, by decide, by decide, by decide +kernel⟩ w_332 w_4 (c_VS_cutList0 Γ (b) (b + 5) (b + 11) ((-1)) (tm) (b + 11) (0) (b + 21) (zs3x0) (fs3x1) (0) (b + 20) (cc) (zz) (y) (e) (by first | omega | decide | (have h9 := lenLit_le 0; omega)) (by first | omega | decide | (have h9 := lenLit_le 0; omega)) (by first | omega | decide | (have h9 := lenLit_le 0; omega)) ((hf3 (b) (by omega) (by omega) (by omega) (by omega) (by omega) (by omega) (by omega) (by omega) (by omega) (by omega) (by omega) (by omega) (by omega) (by omega)).trans ((hf2 (b) (by omega) (by omega) (by omega) (by omega) (by omega) (by omega) (by omega) (by omega) (by omega) (by omega) (by omega) (by omega) (by omega) (by omega)).trans hw1_3)) hw3_7 hw3_8 hw3_9 ((hf3 ((b + 11)) (by omega) (by omega) (by omega) (by omega) (by omega) (by omega) (by omega) (by omega) (by omega) (by omega) (by omega) (by omega) (by omega) (by omega)).trans ((hf2 ((b + 11)) (by omega) (by omega) (by omega) (by omega) (by omega) (by omega) (by omega) (by omega) (by omega) (by omega) (by omega) (by omega) (by omega) (by omega)).trans hw1_2)) ((hf3 ((b + 21)) (by omega) (by omega) (by omega) (by omega) (by omega) (by omega) (by omega) (by omega) (by omega) (by omega) (by omega) (by omega) (by omega) (by omega)).trans ((hf2 ((b + 21)) (by omega) (by omega) (by omega) (by omega) (by omega) (by omega) (by omega) (by omega) (by omega) (by omega) (by omega) (by omega) (by omega) (by omega)).trans ((hf1 ((b + 21)) (by omega) (by omega) (by omega) (by omega) (by omega)).trans p16))) ((hf3 ((b + 21) + 1) (by omega) (by omega) (by omega) (by omega) (by omega) (by omega) (by omega) (by omega) (by omega) (by omega) (by omega) (by omega) (by omega) (by omega)).trans ((hf2 ((b + 21) + 1) (by omega) (by omega) (by omega) (by omega) (by omega) (by omega) (by omega) (by omega) (by omega) (by omega) (by omega) (by omega) (by omega) (by omega)).trans ((hf1 ((b + 21) + 1) (by omega) (by omega) (by omega) (by omega) (by omega)).trans p17)))) d_VS_keep_30 ((hf3 (b) (by omega) (by omega) (by omega) (by omega) (by omega) (by omega) (by omega) (by omega) (by omega) (by omega) (by omega) (by omega) (by omega) (by omega)).trans ((hf2 (b) (by omega) (by omega) (by omega) (by omega) (by omega) (by omega) (by omega) (by omega) (by omega) (by omega) (by omega) (by omega) (by omega) (by omega)).trans hw1_3)) rfl rfl ⟨⟨by decide, by decide⟩, ⟨by decide, by decide⟩⟩ (Nat.le_of_ble_eq_true rfl) (fun v4 M4 n4 hQ4 hn4 hd4 => ?_)
  obtain ⟨rfl, hf4, zs4x0, fs4x1, rfl, hb4_zs4x0_0, hb4_zs4x0_1, hw4_0, hw4_1, hw4_2, hw4_3, hw4_4⟩ := hQ4
  refine g_pop d_VS_keep_33 rfl ?_
  refine g_aload_n d_VS_keep_34 rfl ?_
  refine g_aload_n d_VS_keep_35 rfl ?_
  refine g_get fa_VS_49 d_VS_keep_36 ((hf4 (b) (by omega) (by omega) (by omega) (by omega) (by omega)).trans ((hf3 (b) (by omega) (by omega) (by omega) (by omega) (by omega) (by omega) (by omega) (by omega) (by omega) (by omega) (by omega) (by omega) (by omega) (by omega)).trans ((hf2 (b) (by omega) (by omega) (by omega) (by omega) (by omega) (by omega) (by omega) (by omega) (by omega) (by omega) (by omega) (by omega) (by omega) (by omega)).trans hw1_3))) rfl ?_
  refine g_callV1 (ν := k_Th_obey0) ⟨w_594, w_47, w_597, by decide, by decide, by decide +kernel⟩ w_595 w_596 (c_Th_obey0 Γ (n) (b + 21) (path) (((-2))) (((-2))) (0) (0) (0) (0) (0) (0) (0) (b + 22) (e) (by omega) ((hf4 (n) (by omega) (by omega) (by omega) (by omega) (by omega)).trans hw3_0) hw4_4) d_VS_keep_39 ((hf4 (n) (by omega) (by omega) (by omega) (by omega) (by omega)).trans hw3_0) rfl rfl ⟨⟨by decide, by decide⟩, ⟨by decide, by decide⟩⟩ (Nat.le_of_ble_eq_true rfl) (fun v5 M5 n5 hQ5 hn5 hd5 => ?_)
  obtain ⟨rfl, hf5, rfl, hw5_0⟩ := hQ5
  refine g_aload_n d_VS_keep_42 rfl ?_
  refine g_aload_n d_VS_keep_43 rfl ?_
  refine g_callV1 (ν := k_VS_startLife0) ⟨w_607, w_30, w_610, by decide, by decide, by decide +kernel⟩ w_609 w_13 (c_VS_startLife0 Γ (b) ((-1)) (tm) (n) (path) (0) (0) (0) (0) (zs4x0) (0) (fs4x1) (fv) (by omega) ((hf5 (b) (by omega)).trans ((hf4 (b) (by omega) (by omega) (by omega) (by omega) (by omega)).trans ((hf3 (b) (by omega) (by omega) (by omega) (by omega) (by omega) (by omega) (by omega) (by omega) (by omega) (by omega) (by omega) (by omega) (by omega) (by omega)).trans ((hf2 (b) (by omega) (by omega) (by omega) (by omega) (by omega) (by omega) (by omega) (by omega) (by omega) (by omega) (by omega) (by omega) (by omega) (by omega)).trans hw1_3)))) ((hf5 (b + 11) (by omega)).trans ((hf4 (b + 11) (by omega) (by omega) (by omega) (by omega) (by omega)).trans ((hf3 (b + 11) (by omega) (by omega) (by omega) (by omega) (by omega) (by omega) (by omega) (by omega) (by omega) (by omega) (by omega) (by omega) (by omega) (by omega)).trans ((hf2 (b + 11) (by omega) (by omega) (by omega) (by omega) (by omega) (by omega) (by omega) (by omega) (by omega) (by omega) (by omega) (by omega) (by omega) (by omega)).trans hw1_2)))) ((hf5 (b + 17) (by omega)).trans hw4_0) ((hf5 (b + 17 + 1) (by omega)).trans hw4_1) ((hf5 (b + 19) (by omega)).trans hw4_2) ((hf5 (b + 19 + 1) (by omega)).trans ((hf4 (b + 19 + 1) (by omega) (by omega) (by omega) (by omega) (by omega)).trans ((hf3 (b + 19 + 1) (by omega) (by omega) (by omega) (by omega) (by omega) (by omega) (by omega) (by omega) (by omega) (by omega) (by omega) (by omega) (by omega) (by omega)).trans ((hf2 (b + 19 + 1) (by omega) (by omega) (by omega) (by omega) (by omega) (by omega) (by omega) (by omega) (by omega) (by omega) (by omega) (by omega) (by omega) (by omega)).trans ((hf1 (b + 19 + 1) (by omega) (by omega) (by omega) (by omega) (by omega)).trans p15))))) hw5_0) d_VS_keep_44 ((hf5 (b) (by omega)).trans ((hf4 (b) (by omega) (by omega) (by omega) (by omega) (by omega)).trans ((hf3 (b) (by omega) (by omega) (by omega) (by omega) (by omega) (by omega) (by omega) (by omega) (by omega) (by omega) (by omega) (by omega) (by omega) (by omega)).trans ((hf2 (b) (by omega) (by omega) (by omega) (by omega) (by omega) (by omega) (by omega) (by omega) (by omega) (by omega) (by omega) (by omega) (by omega) (by omega)).trans hw1_3)))) rfl rfl ⟨⟨by decide, by decide⟩, ⟨by decide, by decide⟩⟩ (Nat.le_of_ble_eq_true rfl) (fun v6 M6 n6 hQ6 hn6 hd6 => ?_)
  obtain ⟨rfl, hf6, zs6x0, fs6x1, rfl, hb6_zs6x0_0, hb6_zs6x0_1, hw6_0, hw6_1, hw6_2, hw6_3⟩ := hQ6
  refine g_aload_n d_VS_keep_47 rfl ?_
  refine g_get fa_VS_19 d_VS_keep_48 ((hf6 (b) (by omega) (by omega) (by omega) (by omega)).trans ((hf5 (b) (by omega)).trans ((hf4 (b) (by omega) (by omega) (by omega) (by omega) (by omega)).trans ((hf3 (b) (by omega) (by omega) (by omega) (by omega) (by omega) (by omega) (by omega) (by omega) (by omega) (by omega) (by omega) (by omega) (by omega) (by omega)).trans ((hf2 (b) (by omega) (by omega) (by omega) (by omega) (by omega) (by omega) (by omega) (by omega) (by omega) (by omega) (by omega) (by omega) (by omega) (by omega)).trans hw1_3))))) rfl ?_
  refine g_aload_n d_VS_keep_51 rfl ?_
  refine g_aload_n d_VS_keep_52 rfl ?_
  refine g_callV1 (ν := k_VS_same0) ⟨w_620, w_30, w_623, by decide, by decide, by decide +kernel⟩ w_622 w_15 (c_VS_same0 Γ (b) (b + 5) (b + 11) ((-1)) (tm) (n) (u)  ((hf6 (b) (by omega) (by omega) (by omega) (by omega)).trans ((hf5 (b) (by omega)).trans ((hf4 (b) (by omega) (by omega) (by omega) (by omega) (by omega)).trans ((hf3 (b) (by omega) (by omega) (by omega) (by omega) (by omega) (by omega) (by omega) (by omega) (by omega) (by omega) (by omega) (by omega) (by omega) (by omega)).trans ((hf2 (b) (by omega) (by omega) (by omega) (by omega) (by omega) (by omega) (by omega) (by omega) (by omega) (by omega) (by omega) (by omega) (by omega) (by omega)).trans hw1_3))))) ((hf6 (b + 3) (by omega) (by omega) (by omega) (by omega)).trans ((hf5 (b + 3) (by omega)).trans ((hf4 (b + 3) (by omega) (by omega) (by omega) (by omega) (by omega)).trans ((hf3 (b + 3) (by omega) (by omega) (by omega) (by omega) (by omega) (by omega) (by omega) (by omega) (by omega) (by omega) (by omega) (by omega) (by omega) (by omega)).trans ((hf2 (b + 3) (by omega) (by omega) (by omega) (by omega) (by omega) (by omega) (by omega) (by omega) (by omega) (by omega) (by omega) (by omega) (by omega) (by omega)).trans ((hf1 (b + 3) (by omega) (by omega) (by omega) (by omega) (by omega)).trans p18))))))) d_VS_keep_53 ((hf6 (b) (by omega) (by omega) (by omega) (by omega)).trans ((hf5 (b) (by omega)).trans ((hf4 (b) (by omega) (by omega) (by omega) (by omega) (by omega)).trans ((hf3 (b) (by omega) (by omega) (by omega) (by omega) (by omega) (by omega) (by omega) (by omega) (by omega) (by omega) (by omega) (by omega) (by omega) (by omega)).trans ((hf2 (b) (by omega) (by omega) (by omega) (by omega) (by omega) (by omega) (by omega) (by omega) (by omega) (by omega) (by omega) (by omega) (by omega) (by omega)).trans hw1_3))))) rfl rfl ⟨⟨by decide, by decide⟩, ⟨by decide, by decide⟩⟩ (Nat.le_of_ble_eq_true rfl) (fun v7 M7 n7 hQ7 hn7 hd7 => ?_)
  obtain ⟨rfl, hf7, rfl⟩ := hQ7
  refine g_callV1 (ν := k_Sh_drop0) ⟨w_198, w_32, w_201, by decide, by decide, by decide +kernel⟩ w_199 w_200 (c_Sh_drop0 Γ (b + 3)  ) d_VS_keep_56 ((hf7 (b + 3) ).trans ((hf6 (b + 3) (by omega) (by omega) (by omega) (by omega)).trans ((hf5 (b + 3) (by omega)).trans ((hf4 (b + 3) (by omega) (by omega) (by omega) (by omega) (by omega)).trans ((hf3 (b + 3) (by omega) (by omega) (by omega) (by omega) (by omega) (by omega) (by omega) (by omega) (by omega) (by omega) (by omega) (by omega) (by omega) (by omega)).trans ((hf2 (b + 3) (by omega) (by omega) (by omega) (by omega) (by omega) (by omega) (by omega) (by omega) (by omega) (by omega) (by omega) (by omega) (by omega) (by omega)).trans ((hf1 (b + 3) (by omega) (by omega) (by omega) (by omega) (by omega)).trans p18))))))) rfl rfl ⟨⟨by decide, by decide⟩, ⟨by decide, by decide⟩⟩ (Nat.le_of_ble_eq_true rfl) (fun v8 M8 n8 hQ8 hn8 hd8 => ?_)
  obtain ⟨rfl, hf8, rfl⟩ := hQ8
  refine g_aload_n d_VS_keep_59 rfl ?_
  refine g_aload_n d_VS_keep_60 rfl ?_
  refine g_callV1 (ν := k_VS_mayBeKept0) ⟨w_624, w_30, w_627, by decide, by decide, by decide +kernel⟩ w_626 w_16 (c_VS_mayBeKept0 Γ (b) ((-1)) (tm) (n) (path) ((max (0) ((-1)))) (tm) (0) (zs6x0) (0) (0) (0) (fs6x1) (fv) (y) (e) (n + 2) (n + 4) (n + 6) (by omega) ((hf8 (b) ).trans ((hf7 (b) ).trans ((hf6 (b) (by omega) (by omega) (by omega) (by omega)).trans ((hf5 (b) (by omega)).trans ((hf4 (b) (by omega) (by omega) (by omega) (by omega) (by omega)).trans ((hf3 (b) (by omega) (by omega) (by omega) (by omega) (by omega) (by omega) (by omega) (by omega) (by omega) (by omega) (by omega) (by omega) (by omega) (by omega)).trans ((hf2 (b) (by omega) (by omega) (by omega) (by omega) (by omega) (by omega) (by omega) (by omega) (by omega) (by omega) (by omega) (by omega) (by omega) (by omega)).trans hw1_3))))))) ((hf8 (b + 5) ).trans ((hf7 (b + 5) ).trans ((hf6 (b + 5) (by omega) (by omega) (by omega) (by omega)).trans ((hf5 (b + 5) (by omega)).trans ((hf4 (b + 5) (by omega) (by omega) (by omega) (by omega) (by omega)).trans ((hf3 (b + 5) (by omega) (by omega) (by omega) (by omega) (by omega) (by omega) (by omega) (by omega) (by omega) (by omega) (by omega) (by omega) (by omega) (by omega)).trans ((hf2 (b + 5) (by omega) (by omega) (by omega) (by omega) (by omega) (by omega) (by omega) (by omega) (by omega) (by omega) (by omega) (by omega) (by omega) (by omega)).trans ((hf1 (b + 5) (by omega) (by omega) (by omega) (by omega) (by omega)).trans p6)))))))) ((hf8 (b + 17) ).trans ((hf7 (b + 17) ).trans hw6_0)) ((hf8 (b + 17 + 1) ).trans ((hf7 (b + 17 + 1) ).trans hw6_1)) ((hf8 (b + 19) ).trans ((hf7 (b + 19) ).trans hw6_2)) ((hf8 (b + 19 + 1) ).trans ((hf7 (b + 19 + 1) ).trans ((hf6 (b + 19 + 1) (by omega) (by omega) (by omega) (by omega)).trans ((hf5 (b + 19 + 1) (by omega)).trans ((hf4 (b + 19 + 1) (by omega) (by omega) (by omega) (by omega) (by omega)).trans ((hf3 (b + 19 + 1) (by omega) (by omega) (by omega) (by omega) (by omega) (by omega) (by omega) (by omega) (by omega) (by omega) (by omega) (by omega) (by omega) (by omega)).trans ((hf2 (b + 19 + 1) (by omega) (by omega) (by omega) (by omega) (by omega) (by omega) (by omega) (by omega) (by omega) (by omega) (by omega) (by omega) (by omega) (by omega)).trans ((hf1 (b + 19 + 1) (by omega) (by omega) (by omega) (by omega) (by omega)).trans p15)))))))) ((hf8 (b + 21) ).trans ((hf7 (b + 21) ).trans ((hf6 (b + 21) (by omega) (by omega) (by omega) (by omega)).trans ((hf5 (b + 21) (by omega)).trans hw4_4)))) ((hf8 (b + 22) ).trans ((hf7 (b + 22) ).trans ((hf6 (b + 22) (by omega) (by omega) (by omega) (by omega)).trans ((hf5 (b + 22) (by omega)).trans hw4_3)))) ((hf8 (n) ).trans ((hf7 (n) ).trans hw6_3)) ((hf8 (n + 1) ).trans ((hf7 (n + 1) ).trans ((hf6 (n + 1) (by omega) (by omega) (by omega) (by omega)).trans ((hf5 (n + 1) (by omega)).trans ((hf4 (n + 1) (by omega) (by omega) (by omega) (by omega) (by omega)).trans hw3_11))))) ((hf8 (n + 3) ).trans ((hf7 (n + 3) ).trans ((hf6 (n + 3) (by omega) (by omega) (by omega) (by omega)).trans ((hf5 (n + 3) (by omega)).trans ((hf4 (n + 3) (by omega) (by omega) (by omega) (by omega) (by omega)).trans hw3_13)))))) d_VS_keep_61 ((hf8 (b) ).trans ((hf7 (b) ).trans ((hf6 (b) (by omega) (by omega) (by omega) (by omega)).trans ((hf5 (b) (by omega)).trans ((hf4 (b) (by omega) (by omega) (by omega) (by omega) (by omega)).trans ((hf3 (b) (by omega) (by omega) (by omega) (by omega) (by omega) (by omega) (by omega) (by omega) (by omega) (by omega) (by omega) (by omega) (by omega) (by omega)).trans ((hf2 (b) (by omega) (by omega) (by omega) (by omega) (by omega) (by omega) (by omega) (by omega) (by omega) (by omega) (by omega) (by omega) (by omega) (by omega)).trans hw1_3))))))) rfl rfl ⟨⟨by decide, by decide⟩, ⟨by decide, by decide⟩⟩ (Nat.le_of_ble_eq_true rfl) (fun v9 M9 n9 hQ9 hn9 hd9 => ?_)
  obtain ⟨rfl, hf9, zs9x0, fs9x1, rfl, hb9_zs9x0_0, hb9_zs9x0_1, hw9_0, hw9_1, hw9_2, hw9_3, hw9_4⟩ := hQ9
  refine g_if_ne (tgt := 69) d_VS_keep_64 (by decide) (fun h10 => False.elim (by omega)) (fun _ => ?_)
  refine g_iconst d_VS_keep_67 ?_
  refine g_x ?_
  refine g_zret (ty := .boolean) (by first | rfl | decide) d_VS_keep_68 rfl ?_ (by decide) (by decide)
  exact ⟨rfl, fun q e0 e1 e2 e3 e4 e5 e6 e7 e8 e9 e10 e11 e12 e13 e14 e15 e16 e17 e18 e19 e20 e21 e22 e23 => ((hf9 q (by omega) (by omega) (by omega) (by omega) (by omega)).trans ((hf8 q ).trans ((hf7 q ).trans ((hf6 q (by omega) (by omega) (by omega) (by omega)).trans ((hf5 q (by omega)).trans ((hf4 q (by omega) (by omega) (by omega) (by omega) (by omega)).trans ((hf3 q (by omega) (by omega) (by omega) (by omega) (by omega) (by omega) (by omega) (by omega) (by omega) (by omega) (by omega) (by omega) (by omega) (by omega)).trans ((hf2 q (by omega) (by omega) (by omega) (by omega) (by omega) (by omega) (by omega) (by omega) (by omega) (by omega) (by omega) (by omega) (by omega) (by omega)).trans ((hf1 q (by omega) (by omega) (by omega) (by omega) (by omega)).trans rfl))))))))), zs9x0, fs9x1, rfl, hb9_zs9x0_0, hb9_zs9x0_1, ((hf9 (b + 13) (by omega) (by omega) (by omega) (by omega) (by omega)).trans ((hf8 (b + 13) ).trans ((hf7 (b + 13) ).trans ((hf6 (b + 13) (by omega) (by omega) (by omega) (by omega)).trans ((hf5 (b + 13) (by omega)).trans ((hf4 (b + 13) (by omega) (by omega) (by omega) (by omega) (by omega)).trans ((hf3 (b + 13) (by omega) (by omega) (by omega) (by omega) (by omega) (by omega) (by omega) (by omega) (by omega) (by omega) (by omega) (by omega) (by omega) (by omega)).trans ((hf2 (b + 13) (by omega) (by omega) (by omega) (by omega) (by omega) (by omega) (by omega) (by omega) (by omega) (by omega) (by omega) (by omega) (by omega) (by omega)).trans hw1_0)))))))), ((hf9 (b + 12) (by omega) (by omega) (by omega) (by omega) (by omega)).trans ((hf8 (b + 12) ).trans ((hf7 (b + 12) ).trans ((hf6 (b + 12) (by omega) (by omega) (by omega) (by omega)).trans ((hf5 (b + 12) (by omega)).trans ((hf4 (b + 12) (by omega) (by omega) (by omega) (by omega) (by omega)).trans ((hf3 (b + 12) (by omega) (by omega) (by omega) (by omega) (by omega) (by omega) (by omega) (by omega) (by omega) (by omega) (by omega) (by omega) (by omega) (by omega)).trans ((hf2 (b + 12) (by omega) (by omega) (by omega) (by omega) (by omega) (by omega) (by omega) (by omega) (by omega) (by omega) (by omega) (by omega) (by omega) (by omega)).trans hw1_1)))))))), ((hf9 (b + 11) (by omega) (by omega) (by omega) (by omega) (by omega)).trans ((hf8 (b + 11) ).trans ((hf7 (b + 11) ).trans ((hf6 (b + 11) (by omega) (by omega) (by omega) (by omega)).trans ((hf5 (b + 11) (by omega)).trans ((hf4 (b + 11) (by omega) (by omega) (by omega) (by omega) (by omega)).trans ((hf3 (b + 11) (by omega) (by omega) (by omega) (by omega) (by omega) (by omega) (by omega) (by omega) (by omega) (by omega) (by omega) (by omega) (by omega) (by omega)).trans ((hf2 (b + 11) (by omega) (by omega) (by omega) (by omega) (by omega) (by omega) (by omega) (by omega) (by omega) (by omega) (by omega) (by omega) (by omega) (by omega)).trans hw1_2)))))))), ((hf9 (b) (by omega) (by omega) (by omega) (by omega) (by omega)).trans ((hf8 (b) ).trans ((hf7 (b) ).trans ((hf6 (b) (by omega) (by omega) (by omega) (by omega)).trans ((hf5 (b) (by omega)).trans ((hf4 (b) (by omega) (by omega) (by omega) (by omega) (by omega)).trans ((hf3 (b) (by omega) (by omega) (by omega) (by omega) (by omega) (by omega) (by omega) (by omega) (by omega) (by omega) (by omega) (by omega) (by omega) (by omega)).trans ((hf2 (b) (by omega) (by omega) (by omega) (by omega) (by omega) (by omega) (by omega) (by omega) (by omega) (by omega) (by omega) (by omega) (by omega) (by omega)).trans hw1_3)))))))), ((hf9 (b + 1) (by omega) (by omega) (by omega) (by omega) (by omega)).trans ((hf8 (b + 1) ).trans ((hf7 (b + 1) ).trans ((hf6 (b + 1) (by omega) (by omega) (by omega) (by omega)).trans ((hf5 (b + 1) (by omega)).trans ((hf4 (b + 1) (by omega) (by omega) (by omega) (by omega) (by omega)).trans ((hf3 (b + 1) (by omega) (by omega) (by omega) (by omega) (by omega) (by omega) (by omega) (by omega) (by omega) (by omega) (by omega) (by omega) (by omega) (by omega)).trans ((hf2 (b + 1) (by omega) (by omega) (by omega) (by omega) (by omega) (by omega) (by omega) (by omega) (by omega) (by omega) (by omega) (by omega) (by omega) (by omega)).trans hw1_4)))))))), ((hf9 (n) (by omega) (by omega) (by omega) (by omega) (by omega)).trans ((hf8 (n) ).trans ((hf7 (n) ).trans hw6_3))), ((hf9 (n + 1) (by omega) (by omega) (by omega) (by omega) (by omega)).trans ((hf8 (n + 1) ).trans ((hf7 (n + 1) ).trans ((hf6 (n + 1) (by omega) (by omega) (by omega) (by omega)).trans ((hf5 (n + 1) (by omega)).trans ((hf4 (n + 1) (by omega) (by omega) (by omega) (by omega) (by omega)).trans hw3_11)))))), ((hf9 (n + 2) (by omega) (by omega) (by omega) (by omega) (by omega)).trans ((hf8 (n + 2) ).trans ((hf7 (n + 2) ).trans ((hf6 (n + 2) (by omega) (by omega) (by omega) (by omega)).trans ((hf5 (n + 2) (by omega)).trans ((hf4 (n + 2) (by omega) (by omega) (by omega) (by omega) (by omega)).trans hw3_10)))))), ((hf9 (n + 3) (by omega) (by omega) (by omega) (by omega) (by omega)).trans ((hf8 (n + 3) ).trans ((hf7 (n + 3) ).trans ((hf6 (n + 3) (by omega) (by omega) (by omega) (by omega)).trans ((hf5 (n + 3) (by omega)).trans ((hf4 (n + 3) (by omega) (by omega) (by omega) (by omega) (by omega)).trans hw3_13)))))), ((hf9 (n + 4) (by omega) (by omega) (by omega) (by omega) (by omega)).trans ((hf8 (n + 4) ).trans ((hf7 (n + 4) ).trans ((hf6 (n + 4) (by omega) (by omega) (by omega) (by omega)).trans ((hf5 (n + 4) (by omega)).trans ((hf4 (n + 4) (by omega) (by omega) (by omega) (by omega) (by omega)).trans hw3_12)))))), ((hf9 (n + 5) (by omega) (by omega) (by omega) (by omega) (by omega)).trans ((hf8 (n + 5) ).trans ((hf7 (n + 5) ).trans ((hf6 (n + 5) (by omega) (by omega) (by omega) (by omega)).trans ((hf5 (n + 5) (by omega)).trans ((hf4 (n + 5) (by omega) (by omega) (by omega) (by omega) (by omega)).trans ((hf3 (n + 5) (by omega) (by omega) (by omega) (by omega) (by omega) (by omega) (by omega) (by omega) (by omega) (by omega) (by omega) (by omega) (by omega) (by omega)).trans hw2_5))))))), ((hf9 (n + 6) (by omega) (by omega) (by omega) (by omega) (by omega)).trans ((hf8 (n + 6) ).trans ((hf7 (n + 6) ).trans ((hf6 (n + 6) (by omega) (by omega) (by omega) (by omega)).trans ((hf5 (n + 6) (by omega)).trans ((hf4 (n + 6) (by omega) (by omega) (by omega) (by omega) (by omega)).trans ((hf3 (n + 6) (by omega) (by omega) (by omega) (by omega) (by omega) (by omega) (by omega) (by omega) (by omega) (by omega) (by omega) (by omega) (by omega) (by omega)).trans hw2_6))))))), ((hf9 (n + 7) (by omega) (by omega) (by omega) (by omega) (by omega)).trans ((hf8 (n + 7) ).trans ((hf7 (n + 7) ).trans ((hf6 (n + 7) (by omega) (by omega) (by omega) (by omega)).trans ((hf5 (n + 7) (by omega)).trans ((hf4 (n + 7) (by omega) (by omega) (by omega) (by omega) (by omega)).trans hw3_6)))))), ((hf9 (n + 8) (by omega) (by omega) (by omega) (by omega) (by omega)).trans ((hf8 (n + 8) ).trans ((hf7 (n + 8) ).trans ((hf6 (n + 8) (by omega) (by omega) (by omega) (by omega)).trans ((hf5 (n + 8) (by omega)).trans ((hf4 (n + 8) (by omega) (by omega) (by omega) (by omega) (by omega)).trans hw3_2)))))), ((hf9 (n + 9) (by omega) (by omega) (by omega) (by omega) (by omega)).trans ((hf8 (n + 9) ).trans ((hf7 (n + 9) ).trans ((hf6 (n + 9) (by omega) (by omega) (by omega) (by omega)).trans ((hf5 (n + 9) (by omega)).trans ((hf4 (n + 9) (by omega) (by omega) (by omega) (by omega) (by omega)).trans hw3_1)))))), ((hf9 (n + 10) (by omega) (by omega) (by omega) (by omega) (by omega)).trans ((hf8 (n + 10) ).trans ((hf7 (n + 10) ).trans ((hf6 (n + 10) (by omega) (by omega) (by omega) (by omega)).trans ((hf5 (n + 10) (by omega)).trans ((hf4 (n + 10) (by omega) (by omega) (by omega) (by omega) (by omega)).trans hw3_3)))))), ((hf9 (n + 11) (by omega) (by omega) (by omega) (by omega) (by omega)).trans ((hf8 (n + 11) ).trans ((hf7 (n + 11) ).trans ((hf6 (n + 11) (by omega) (by omega) (by omega) (by omega)).trans ((hf5 (n + 11) (by omega)).trans ((hf4 (n + 11) (by omega) (by omega) (by omega) (by omega) (by omega)).trans hw3_4)))))), ((hf9 (n + 12) (by omega) (by omega) (by omega) (by omega) (by omega)).trans ((hf8 (n + 12) ).trans ((hf7 (n + 12) ).trans ((hf6 (n + 12) (by omega) (by omega) (by omega) (by omega)).trans ((hf5 (n + 12) (by omega)).trans ((hf4 (n + 12) (by omega) (by omega) (by omega) (by omega) (by omega)).trans hw3_5)))))), ((hf9 (b + 4) (by omega) (by omega) (by omega) (by omega) (by omega)).trans ((hf8 (b + 4) ).trans ((hf7 (b + 4) ).trans ((hf6 (b + 4) (by omega) (by omega) (by omega) (by omega)).trans ((hf5 (b + 4) (by omega)).trans ((hf4 (b + 4) (by omega) (by omega) (by omega) (by omega) (by omega)).trans ((hf3 (b + 4) (by omega) (by omega) (by omega) (by omega) (by omega) (by omega) (by omega) (by omega) (by omega) (by omega) (by omega) (by omega) (by omega) (by omega)).trans hw2_13))))))), hw9_0, hw9_1, hw9_2, hw9_3, hw9_4, by omega⟩
end
section
theorem d_Mo_name_140 : decode b_Mo_name 140 = .ok (.iload 7, 2) := by decide +kernel
theorem d_Mo_name_142 : decode b_Mo_name 142 = .ok (.iload 5, 2) := by decide +kernel
theorem d_Mo_name_144 : decode b_Mo_name 144 = .ok (.if_icmp .ge 34, 3) := by decide +kernel
theorem d_Mo_name_178 : decode b_Mo_name 178 = .ok (.aload 6, 2) := by decide +kernel
theorem d_Mo_name_180 : decode b_Mo_name 180 = .ok (.areturn, 1) := by decide +kernel
theorem d_Mo_name_147 : decode b_Mo_name 147 = .ok (.aload 6, 2) := by decide +kernel
theorem d_Mo_name_149 : decode b_Mo_name 149 = .ok (.iload 4, 2) := by decide +kernel
theorem d_Mo_name_151 : decode b_Mo_name 151 = .ok (.iload 7, 2) := by decide +kernel
theorem d_Mo_name_153 : decode b_Mo_name 153 = .ok (.iadd, 1) := by decide +kernel
theorem d_Mo_name_154 : decode b_Mo_name 154 = .ok (.lload_n 2, 1) := by decide +kernel
theorem d_Mo_name_155 : decode b_Mo_name 155 = .ok (.bipush 8, 2) := by decide +kernel
theorem d_Mo_name_157 : decode b_Mo_name 157 = .ok (.iload 5, 2) := by decide +kernel
theorem d_Mo_name_159 : decode b_Mo_name 159 = .ok (.iconst 1, 1) := by decide +kernel
theorem d_Mo_name_160 : decode b_Mo_name 160 = .ok (.isub, 1) := by decide +kernel
theorem d_Mo_name_161 : decode b_Mo_name 161 = .ok (.iload 7, 2) := by decide +kernel
theorem d_Mo_name_163 : decode b_Mo_name 163 = .ok (.isub, 1) := by decide +kernel
theorem d_Mo_name_164 : decode b_Mo_name 164 = .ok (.imul, 1) := by decide +kernel
theorem d_Mo_name_165 : decode b_Mo_name 165 = .ok (.lushr, 1) := by decide +kernel
theorem d_Mo_name_166 : decode b_Mo_name 166 = .ok (.ldc2_w 38, 3) := by decide +kernel
theorem d_Mo_name_169 : decode b_Mo_name 169 = .ok (.land, 1) := by decide +kernel
theorem d_Mo_name_170 : decode b_Mo_name 170 = .ok (.l2i, 1) := by decide +kernel
theorem d_Mo_name_171 : decode b_Mo_name 171 = .ok (.iastore, 1) := by decide +kernel
theorem d_Mo_name_172 : decode b_Mo_name 172 = .ok (.iinc 7 1, 3) := by decide +kernel
theorem d_Mo_name_175 : decode b_Mo_name 175 = .ok (.goto (-35), 3) := by decide +kernel
theorem d_Mo_name_102 : decode b_Mo_name 102 = .ok (.iload 7, 2) := by decide +kernel
theorem d_Mo_name_104 : decode b_Mo_name 104 = .ok (.iload 4, 2) := by decide +kernel
theorem d_Mo_name_106 : decode b_Mo_name 106 = .ok (.if_icmp .ge 31, 3) := by decide +kernel
theorem d_Mo_name_137 : decode b_Mo_name 137 = .ok (.iconst 0, 1) := by decide +kernel
theorem d_Mo_name_138 : decode b_Mo_name 138 = .ok (.istore 7, 2) := by decide +kernel
theorem d_Mo_name_109 : decode b_Mo_name 109 = .ok (.aload 6, 2) := by decide +kernel
theorem d_Mo_name_111 : decode b_Mo_name 111 = .ok (.iload 7, 2) := by decide +kernel
theorem d_Mo_name_113 : decode b_Mo_name 113 = .ok (.lload_n 0, 1) := by decide +kernel
theorem d_Mo_name_114 : decode b_Mo_name 114 = .ok (.bipush 8, 2) := by decide +kernel
theorem d_Mo_name_116 : decode b_Mo_name 116 = .ok (.iload 4, 2) := by decide +kernel
theorem d_Mo_name_118 : decode b_Mo_name 118 = .ok (.iconst 1, 1) := by decide +kernel
theorem d_Mo_name_119 : decode b_Mo_name 119 = .ok (.isub, 1) := by decide +kernel
theorem d_Mo_name_120 : decode b_Mo_name 120 = .ok (.iload 7, 2) := by decide +kernel
theorem d_Mo_name_122 : decode b_Mo_name 122 = .ok (.isub, 1) := by decide +kernel
theorem d_Mo_name_123 : decode b_Mo_name 123 = .ok (.imul, 1) := by decide +kernel
theorem d_Mo_name_124 : decode b_Mo_name 124 = .ok (.lushr, 1) := by decide +kernel
theorem d_Mo_name_125 : decode b_Mo_name 125 = .ok (.ldc2_w 38, 3) := by decide +kernel
theorem d_Mo_name_128 : decode b_Mo_name 128 = .ok (.land, 1) := by decide +kernel
theorem d_Mo_name_129 : decode b_Mo_name 129 = .ok (.l2i, 1) := by decide +kernel
theorem d_Mo_name_130 : decode b_Mo_name 130 = .ok (.iastore, 1) := by decide +kernel
theorem d_Mo_name_131 : decode b_Mo_name 131 = .ok (.iinc 7 1, 3) := by decide +kernel
theorem d_Mo_name_134 : decode b_Mo_name 134 = .ok (.goto (-32), 3) := by decide +kernel
theorem d_Mo_name_51 : decode b_Mo_name 51 = .ok (.iload 6, 2) := by decide +kernel
theorem d_Mo_name_53 : decode b_Mo_name 53 = .ok (.bipush 8, 2) := by decide +kernel
theorem d_Mo_name_55 : decode b_Mo_name 55 = .ok (.if_icmp .ge 35, 3) := by decide +kernel
theorem d_Mo_name_90 : decode b_Mo_name 90 = .ok (.iload 4, 2) := by decide +kernel
theorem d_Mo_name_92 : decode b_Mo_name 92 = .ok (.iload 5, 2) := by decide +kernel
theorem d_Mo_name_94 : decode b_Mo_name 94 = .ok (.iadd, 1) := by decide +kernel
theorem d_Mo_name_95 : decode b_Mo_name 95 = .ok (.newarray .int, 2) := by decide +kernel
theorem d_Mo_name_97 : decode b_Mo_name 97 = .ok (.astore 6, 2) := by decide +kernel
theorem d_Mo_name_99 : decode b_Mo_name 99 = .ok (.iconst 0, 1) := by decide +kernel
theorem d_Mo_name_100 : decode b_Mo_name 100 = .ok (.istore 7, 2) := by decide +kernel
theorem d_Mo_name_58 : decode b_Mo_name 58 = .ok (.iload 5, 2) := by decide +kernel
theorem d_Mo_name_60 : decode b_Mo_name 60 = .ok (.lload_n 2, 1) := by decide +kernel
theorem d_Mo_name_61 : decode b_Mo_name 61 = .ok (.bipush 8, 2) := by decide +kernel
theorem d_Mo_name_63 : decode b_Mo_name 63 = .ok (.iload 6, 2) := by decide +kernel
theorem d_Mo_name_65 : decode b_Mo_name 65 = .ok (.imul, 1) := by decide +kernel
theorem d_Mo_name_66 : decode b_Mo_name 66 = .ok (.lushr, 1) := by decide +kernel
theorem d_Mo_name_67 : decode b_Mo_name 67 = .ok (.ldc2_w 38, 3) := by decide +kernel
theorem d_Mo_name_70 : decode b_Mo_name 70 = .ok (.land, 1) := by decide +kernel
theorem d_Mo_name_71 : decode b_Mo_name 71 = .ok (.lconst 0, 1) := by decide +kernel
theorem d_Mo_name_72 : decode b_Mo_name 72 = .ok (.lcmp, 1) := by decide +kernel
theorem d_Mo_name_73 : decode b_Mo_name 73 = .ok (.ifCond .eq 7, 3) := by decide +kernel
theorem d_Mo_name_80 : decode b_Mo_name 80 = .ok (.iconst 0, 1) := by decide +kernel
theorem d_Mo_name_81 : decode b_Mo_name 81 = .ok (.iadd, 1) := by decide +kernel
theorem d_Mo_name_82 : decode b_Mo_name 82 = .ok (.istore 5, 2) := by decide +kernel
theorem d_Mo_name_84 : decode b_Mo_name 84 = .ok (.iinc 6 1, 3) := by decide +kernel
theorem d_Mo_name_87 : decode b_Mo_name 87 = .ok (.goto (-36), 3) := by decide +kernel
theorem d_Mo_name_76 : decode b_Mo_name 76 = .ok (.iconst 1, 1) := by decide +kernel
theorem d_Mo_name_77 : decode b_Mo_name 77 = .ok (.goto 4, 3) := by decide +kernel
theorem d_Mo_name_6 : decode b_Mo_name 6 = .ok (.iload 5, 2) := by decide +kernel
theorem d_Mo_name_8 : decode b_Mo_name 8 = .ok (.bipush 8, 2) := by decide +kernel
theorem d_Mo_name_10 : decode b_Mo_name 10 = .ok (.if_icmp .ge 35, 3) := by decide +kernel
theorem d_Mo_name_45 : decode b_Mo_name 45 = .ok (.iconst 0, 1) := by decide +kernel
theorem d_Mo_name_46 : decode b_Mo_name 46 = .ok (.istore 5, 2) := by decide +kernel
theorem d_Mo_name_48 : decode b_Mo_name 48 = .ok (.iconst 0, 1) := by decide +kernel
theorem d_Mo_name_49 : decode b_Mo_name 49 = .ok (.istore 6, 2) := by decide +kernel
theorem d_Mo_name_13 : decode b_Mo_name 13 = .ok (.iload 4, 2) := by decide +kernel
theorem d_Mo_name_15 : decode b_Mo_name 15 = .ok (.lload_n 0, 1) := by decide +kernel
theorem d_Mo_name_16 : decode b_Mo_name 16 = .ok (.bipush 8, 2) := by decide +kernel
theorem d_Mo_name_18 : decode b_Mo_name 18 = .ok (.iload 5, 2) := by decide +kernel
theorem d_Mo_name_20 : decode b_Mo_name 20 = .ok (.imul, 1) := by decide +kernel
theorem d_Mo_name_21 : decode b_Mo_name 21 = .ok (.lushr, 1) := by decide +kernel
theorem d_Mo_name_22 : decode b_Mo_name 22 = .ok (.ldc2_w 38, 3) := by decide +kernel
theorem d_Mo_name_25 : decode b_Mo_name 25 = .ok (.land, 1) := by decide +kernel
theorem d_Mo_name_26 : decode b_Mo_name 26 = .ok (.lconst 0, 1) := by decide +kernel
theorem d_Mo_name_27 : decode b_Mo_name 27 = .ok (.lcmp, 1) := by decide +kernel
theorem d_Mo_name_28 : decode b_Mo_name 28 = .ok (.ifCond .eq 7, 3) := by decide +kernel
theorem d_Mo_name_35 : decode b_Mo_name 35 = .ok (.iconst 0, 1) := by decide +kernel
theorem d_Mo_name_36 : decode b_Mo_name 36 = .ok (.iadd, 1) := by decide +kernel
theorem d_Mo_name_37 : decode b_Mo_name 37 = .ok (.istore 4, 2) := by decide +kernel
theorem d_Mo_name_39 : decode b_Mo_name 39 = .ok (.iinc 5 1, 3) := by decide +kernel
theorem d_Mo_name_42 : decode b_Mo_name 42 = .ok (.goto (-36), 3) := by decide +kernel
theorem d_Mo_name_31 : decode b_Mo_name 31 = .ok (.iconst 1, 1) := by decide +kernel
theorem d_Mo_name_32 : decode b_Mo_name 32 = .ok (.goto 4, 3) := by decide +kernel
theorem d_Mo_name_0 : decode b_Mo_name 0 = .ok (.iconst 0, 1) := by decide +kernel
theorem d_Mo_name_1 : decode b_Mo_name 1 = .ok (.istore 4, 2) := by decide +kernel
theorem d_Mo_name_3 : decode b_Mo_name 3 = .ok (.iconst 0, 1) := by decide +kernel
theorem d_Mo_name_4 : decode b_Mo_name 4 = .ok (.istore 5, 2) := by decide +kernel
set_option maxRecDepth 20000 in
theorem w_766 : Cond.constantLong "VaryStoreModel" 38 255 ∈ TB := tb_in 766 (by decide +kernel) (by decide +kernel)
def Q_Mo_name (Γ : GE) (M : HM) (n : Nat) : Option Value → HM → Nat → Prop := fun v M' n' => n + 1 = n' ∧ (∀ q, q ≠ n → M' q = M q) ∧ ∃ (kn : Nat) (fn : Nat → Int32), v = some (.ref n) ∧ kn ≤ 16 ∧ M' (n) = some (.inl (Γ.2.2.1 1, kn, .inl (fn)))
def k_Mo_name : MS := ("VaryStoreModel", b_Mo_name, 8, (some (.array .int)), "name", { frames := 0, cells := 1, slots := 16, locals := 0 }, [])
set_option maxRecDepth 100000 in
set_option maxHeartbeats 4000000 in
theorem c_Mo_name (Γ : GE) (w1 : Int64) (w2 : Int64) {M : HM} {n : Nat}   : CT Γ k_Mo_name y_Mo_name [.long (w1), .long (w2)] M (n) (Q_Mo_name Γ M n) := by
  refine CT.of (by decide) rfl rfl 4 rfl (Nat.le_of_ble_eq_true rfl) rfl ?_
  have loop140 : ∀ (kk : Nat) (c1 : Int) (c2 : Int) (i : Int) (kz : Nat) (f1 : Nat → Int32) (M1 : HM), 0 ≤ c1 → c1 ≤ 8 → 0 ≤ c2 → c2 ≤ 8 → 0 ≤ i → i ≤ 8 → c1 + c2 = (kz : Nat) → 8 - i < (kk : Int) → (∀ q, q ≠ n → M1 q = M q) → M1 (n) = some (.inl (Γ.2.2.1 1, kz, .inl (f1))) → G Γ k_Mo_name (AA M n) (EM Γ k_Mo_name (AA M n) (Q_Mo_name Γ M n)) (0 + 1) (0 + kz) M1 (n + 1) 140 [some (.long (w1)), none, some (.long (w2)), none, some (.int (iI (c1))), some (.int (iI (c2))), some (.ref (n)), some (.int (iI (i)))] [] := by
    intro kk
    induction kk with
    | zero => intro c1 c2 i kz f1 M1 x1 x2 x3 x4 x5 x6 x7 hm; omega
    | succ kk ih =>
      intro c1 c2 i kz f1 M1 x1 x2 x3 x4 x5 x6 x7 hm hfr q0
      refine g_iload d_Mo_name_140 rfl ?_
      refine g_iload d_Mo_name_142 rfl ?_
      refine g_icmp_ge (tgt := 178) d_Mo_name_144 (by decide) (fun h1401 => ?_) (fun h1401 => ?_)
      · skip
        refine g_aload d_Mo_name_178 rfl ?_
        refine g_aret (rt := (.array .int)) (by first | exact Or.inl ⟨_, rfl⟩ | exact Or.inr ⟨_, rfl⟩) (by first | exact Or.inl rfl | exact Or.inr ⟨_, rfl⟩) d_Mo_name_180 rfl ?_ (by decide) (by show _ + _ ≤ 16; omega)
        exact ⟨rfl, fun q e0 => (hfr q e0), _, _, rfl, by omega, q0⟩
      · skip
        refine g_aload d_Mo_name_147 rfl ?_
        refine g_iload d_Mo_name_149 rfl ?_
        refine g_iload d_Mo_name_151 rfl ?_
        refine g_iadd d_Mo_name_153 ?_
        refine g_lload_n d_Mo_name_154 rfl ?_
        refine g_bipush d_Mo_name_155 (by decide) ?_
        refine g_iload d_Mo_name_157 rfl ?_
        refine g_iconst d_Mo_name_159 ?_
        refine g_isub d_Mo_name_160 ?_
        refine g_iload d_Mo_name_161 rfl ?_
        refine g_isub d_Mo_name_163 ?_
        refine g_imul d_Mo_name_164 ?_
        refine g_lushr d_Mo_name_165 rfl ?_
        refine g_ldcL w_766 d_Mo_name_166 ?_
        refine g_land d_Mo_name_169 ?_
        refine g_l2i d_Mo_name_170 (iI_of _).symm ?_
        refine g_iast d_Mo_name_171 q0 (by omega) (by omega) (by omega) ?_
        refine g_iinc d_Mo_name_172 rfl (by decide) rfl ?_
        refine g_goto (tgt := 140) d_Mo_name_175 (by decide) ?_
        exact ih (c1) (c2) (i + 1) (kz) ((upd (f1) ((c1 + i) : Int).toNat (iI ((((((w2 : Int64).toUInt64 >>> ((iI ((8 * ((c2 - 1) - i)))).toInt64.toUInt64 &&& Int64.toUInt64 63)).toInt64) &&& 255)).toInt32.toInt)))) _ (by omega) (by omega) (by omega) (by omega) (by omega) (by omega) (by omega) (by omega) (fun q e0 => ((hu_ne (by omega)).trans (hfr q e0))) (hu_same _ _ _)
  have loop102 : ∀ (kk : Nat) (c1 : Int) (c2 : Int) (i : Int) (kz : Nat) (f1 : Nat → Int32) (M1 : HM), 0 ≤ c1 → c1 ≤ 8 → 0 ≤ c2 → c2 ≤ 8 → 0 ≤ i → i ≤ 8 → c1 + c2 = (kz : Nat) → 8 - i < (kk : Int) → (∀ q, q ≠ n → M1 q = M q) → M1 (n) = some (.inl (Γ.2.2.1 1, kz, .inl (f1))) → G Γ k_Mo_name (AA M n) (EM Γ k_Mo_name (AA M n) (Q_Mo_name Γ M n)) (0 + 1) (0 + kz) M1 (n + 1) 102 [some (.long (w1)), none, some (.long (w2)), none, some (.int (iI (c1))), some (.int (iI (c2))), some (.ref (n)), some (.int (iI (i)))] [] := by
    intro kk
    induction kk with
    | zero => intro c1 c2 i kz f1 M1 x1 x2 x3 x4 x5 x6 x7 hm; omega
    | succ kk ih =>
      intro c1 c2 i kz f1 M1 x1 x2 x3 x4 x5 x6 x7 hm hfr q0
      refine g_iload d_Mo_name_102 rfl ?_
      refine g_iload d_Mo_name_104 rfl ?_
      refine g_icmp_ge (tgt := 137) d_Mo_name_106 (by decide) (fun h1021 => ?_) (fun h1021 => ?_)
      · skip
        refine g_iconst d_Mo_name_137 ?_
        refine g_istore d_Mo_name_138 (by decide) rfl ?_
        exact loop140 50 (c1) (c2) (0) (kz) ((f1)) _ (by omega) (by omega) (by omega) (by omega) (by omega) (by omega) (by omega) (by omega) (fun q e0 => (hfr q e0)) q0
      · skip
        refine g_aload d_Mo_name_109 rfl ?_
        refine g_iload d_Mo_name_111 rfl ?_
        refine g_lload_n d_Mo_name_113 rfl ?_
        refine g_bipush d_Mo_name_114 (by decide) ?_
        refine g_iload d_Mo_name_116 rfl ?_
        refine g_iconst d_Mo_name_118 ?_
        refine g_isub d_Mo_name_119 ?_
        refine g_iload d_Mo_name_120 rfl ?_
        refine g_isub d_Mo_name_122 ?_
        refine g_imul d_Mo_name_123 ?_
        refine g_lushr d_Mo_name_124 rfl ?_
        refine g_ldcL w_766 d_Mo_name_125 ?_
        refine g_land d_Mo_name_128 ?_
        refine g_l2i d_Mo_name_129 (iI_of _).symm ?_
        refine g_iast d_Mo_name_130 q0 (by omega) (by omega) (by omega) ?_
        refine g_iinc d_Mo_name_131 rfl (by decide) rfl ?_
        refine g_goto (tgt := 102) d_Mo_name_134 (by decide) ?_
        exact ih (c1) (c2) (i + 1) (kz) ((upd (f1) (i : Int).toNat (iI ((((((w1 : Int64).toUInt64 >>> ((iI ((8 * ((c1 - 1) - i)))).toInt64.toUInt64 &&& Int64.toUInt64 63)).toInt64) &&& 255)).toInt32.toInt)))) _ (by omega) (by omega) (by omega) (by omega) (by omega) (by omega) (by omega) (by omega) (fun q e0 => ((hu_ne (by omega)).trans (hfr q e0))) (hu_same _ _ _)
  have loop51 : ∀ (kk : Nat) (c1 : Int) (c2 : Int) (i : Int), 0 ≤ c1 → c1 ≤ 8 → 0 ≤ c2 → c2 ≤ i → 0 ≤ i → i ≤ 8 → 8 - i < (kk : Int) → G Γ k_Mo_name (AA M n) (EM Γ k_Mo_name (AA M n) (Q_Mo_name Γ M n)) 0 0 M (n) 51 [some (.long (w1)), none, some (.long (w2)), none, some (.int (iI (c1))), some (.int (iI (c2))), some (.int (iI (i))), none] [] := by
    intro kk
    induction kk with
    | zero => intro c1 c2 i x1 x2 x3 x4 x5 x6 hm; omega
    | succ kk ih =>
      intro c1 c2 i x1 x2 x3 x4 x5 x6 hm 
      refine g_iload d_Mo_name_51 rfl ?_
      refine g_bipush d_Mo_name_53 (by decide) ?_
      refine g_icmp_ge (tgt := 90) d_Mo_name_55 (by decide) (fun h511 => ?_) (fun h511 => ?_)
      · skip
        refine g_iload d_Mo_name_90 rfl ?_
        refine g_iload d_Mo_name_92 rfl ?_
        refine g_iadd d_Mo_name_94 ?_
        obtain ⟨k512, hk512⟩ : ∃ z : Nat, (c1 + c2) = (z : Nat) := ⟨((c1 + c2)).toNat, by omega⟩
        rw [hk512]
        refine g_newai (k := k512) d_Mo_name_95 w_118 (by omega) (by decide) (by show _ + k512 ≤ 16; omega) ?_
        refine g_astore d_Mo_name_97 (by decide) rfl ?_
        refine g_iconst d_Mo_name_99 ?_
        refine g_istore d_Mo_name_100 (by decide) rfl ?_
        exact loop102 50 (c1) (c2) (0) (k512) ((fun _ => iI 0)) _ (by omega) (by omega) (by omega) (by omega) (by omega) (by omega) (by omega) (by omega) (fun q e0 => ((hu_ne (by omega)).trans rfl)) (hu_same _ _ _)
      · skip
        refine g_iload d_Mo_name_58 rfl ?_
        refine g_lload_n d_Mo_name_60 rfl ?_
        refine g_bipush d_Mo_name_61 (by decide) ?_
        refine g_iload d_Mo_name_63 rfl ?_
        refine g_imul d_Mo_name_65 ?_
        refine g_lushr d_Mo_name_66 rfl ?_
        refine g_ldcL w_766 d_Mo_name_67 ?_
        refine g_land d_Mo_name_70 ?_
        refine g_lconst d_Mo_name_71 rfl ?_
        refine g_lcmp d_Mo_name_72 (fun z513 hz513a hz513b => ?_)
        refine g_if_eq (tgt := 80) d_Mo_name_73 (by decide) (fun h514 => ?_) (fun h514 => ?_)
        · skip
          refine g_iconst d_Mo_name_80 ?_
          refine g_iadd d_Mo_name_81 ?_
          refine g_istore d_Mo_name_82 (by decide) rfl ?_
          refine g_iinc d_Mo_name_84 rfl (by decide) rfl ?_
          refine g_goto (tgt := 51) d_Mo_name_87 (by decide) ?_
          exact ih (c1) ((c2 + 0)) (i + 1) (by omega) (by omega) (by omega) (by omega) (by omega) (by omega) (by omega)
        · skip
          refine g_iconst d_Mo_name_76 ?_
          refine g_goto (tgt := 81) d_Mo_name_77 (by decide) ?_
          refine g_iadd d_Mo_name_81 ?_
          refine g_istore d_Mo_name_82 (by decide) rfl ?_
          refine g_iinc d_Mo_name_84 rfl (by decide) rfl ?_
          refine g_goto (tgt := 51) d_Mo_name_87 (by decide) ?_
          exact ih (c1) ((c2 + 1)) (i + 1) (by omega) (by omega) (by omega) (by omega) (by omega) (by omega) (by omega)
  have loop6 : ∀ (kk : Nat) (c1 : Int) (i : Int), 0 ≤ c1 → c1 ≤ i → 0 ≤ i → i ≤ 8 → 8 - i < (kk : Int) → G Γ k_Mo_name (AA M n) (EM Γ k_Mo_name (AA M n) (Q_Mo_name Γ M n)) 0 0 M (n) 6 [some (.long (w1)), none, some (.long (w2)), none, some (.int (iI (c1))), some (.int (iI (i))), none, none] [] := by
    intro kk
    induction kk with
    | zero => intro c1 i x1 x2 x5 x6 hm; omega
    | succ kk ih =>
      intro c1 i x1 x2 x5 x6 hm 
      refine g_iload d_Mo_name_6 rfl ?_
      refine g_bipush d_Mo_name_8 (by decide) ?_
      refine g_icmp_ge (tgt := 45) d_Mo_name_10 (by decide) (fun h61 => ?_) (fun h61 => ?_)
      · skip
        refine g_iconst d_Mo_name_45 ?_
        refine g_istore d_Mo_name_46 (by decide) rfl ?_
        refine g_iconst d_Mo_name_48 ?_
        refine g_istore d_Mo_name_49 (by decide) rfl ?_
        exact loop51 50 (c1) (0) (0) (by omega) (by omega) (by omega) (by omega) (by omega) (by omega) (by omega)
      · skip
        refine g_iload d_Mo_name_13 rfl ?_
        refine g_lload_n d_Mo_name_15 rfl ?_
        refine g_bipush d_Mo_name_16 (by decide) ?_
        refine g_iload d_Mo_name_18 rfl ?_
        refine g_imul d_Mo_name_20 ?_
        refine g_lushr d_Mo_name_21 rfl ?_
        refine g_ldcL w_766 d_Mo_name_22 ?_
        refine g_land d_Mo_name_25 ?_
        refine g_lconst d_Mo_name_26 rfl ?_
        refine g_lcmp d_Mo_name_27 (fun z62 hz62a hz62b => ?_)
        refine g_if_eq (tgt := 35) d_Mo_name_28 (by decide) (fun h63 => ?_) (fun h63 => ?_)
        · skip
          refine g_iconst d_Mo_name_35 ?_
          refine g_iadd d_Mo_name_36 ?_
          refine g_istore d_Mo_name_37 (by decide) rfl ?_
          refine g_iinc d_Mo_name_39 rfl (by decide) rfl ?_
          refine g_goto (tgt := 6) d_Mo_name_42 (by decide) ?_
          exact ih ((c1 + 0)) (i + 1) (by omega) (by omega) (by omega) (by omega) (by omega)
        · skip
          refine g_iconst d_Mo_name_31 ?_
          refine g_goto (tgt := 36) d_Mo_name_32 (by decide) ?_
          refine g_iadd d_Mo_name_36 ?_
          refine g_istore d_Mo_name_37 (by decide) rfl ?_
          refine g_iinc d_Mo_name_39 rfl (by decide) rfl ?_
          refine g_goto (tgt := 6) d_Mo_name_42 (by decide) ?_
          exact ih ((c1 + 1)) (i + 1) (by omega) (by omega) (by omega) (by omega) (by omega)
  refine g_iconst d_Mo_name_0 ?_
  refine g_istore d_Mo_name_1 (by decide) rfl ?_
  refine g_iconst d_Mo_name_3 ?_
  refine g_istore d_Mo_name_4 (by decide) rfl ?_
  exact loop6 50 (0) (0) (by omega) (by omega) (by omega) (by omega) (by omega)
end
section
theorem d_MT_init_0 : decode b_MT_init 0 = .ok (.aload_n 0, 1) := by decide +kernel
theorem d_MT_init_1 : decode b_MT_init 1 = .ok (.invokespecial 1, 3) := by decide +kernel
theorem d_MT_init_4 : decode b_MT_init 4 = .ok (.aload_n 0, 1) := by decide +kernel
theorem d_MT_init_5 : decode b_MT_init 5 = .ok (.bipush 100, 2) := by decide +kernel
theorem d_MT_init_7 : decode b_MT_init 7 = .ok (.newarray .int, 2) := by decide +kernel
theorem d_MT_init_9 : decode b_MT_init 9 = .ok (.putfield 7, 3) := by decide +kernel
theorem d_MT_init_12 : decode b_MT_init 12 = .ok (.aload_n 0, 1) := by decide +kernel
theorem d_MT_init_13 : decode b_MT_init 13 = .ok (.bipush 100, 2) := by decide +kernel
theorem d_MT_init_15 : decode b_MT_init 15 = .ok (.newarray .int, 2) := by decide +kernel
theorem d_MT_init_17 : decode b_MT_init 17 = .ok (.putfield 13, 3) := by decide +kernel
theorem d_MT_init_20 : decode b_MT_init 20 = .ok (.aload_n 0, 1) := by decide +kernel
theorem d_MT_init_21 : decode b_MT_init 21 = .ok (.bipush 100, 2) := by decide +kernel
theorem d_MT_init_23 : decode b_MT_init 23 = .ok (.newarray .int, 2) := by decide +kernel
theorem d_MT_init_25 : decode b_MT_init 25 = .ok (.putfield 16, 3) := by decide +kernel
theorem d_MT_init_28 : decode b_MT_init 28 = .ok (.aload_n 0, 1) := by decide +kernel
theorem d_MT_init_29 : decode b_MT_init 29 = .ok (.iload_n 1, 1) := by decide +kernel
theorem d_MT_init_30 : decode b_MT_init 30 = .ok (.newarray .int, 2) := by decide +kernel
theorem d_MT_init_32 : decode b_MT_init 32 = .ok (.putfield 19, 3) := by decide +kernel
theorem d_MT_init_35 : decode b_MT_init 35 = .ok (.return_, 1) := by decide +kernel
theorem d_Mg_init_0 : decode b_Mg_init 0 = .ok (.aload_n 0, 1) := by decide +kernel
theorem d_Mg_init_1 : decode b_Mg_init 1 = .ok (.invokespecial 3, 3) := by decide +kernel
theorem d_Mg_init_4 : decode b_Mg_init 4 = .ok (.aload_n 0, 1) := by decide +kernel
theorem d_Mg_init_5 : decode b_Mg_init 5 = .ok (.bipush (-2), 2) := by decide +kernel
theorem d_Mg_init_7 : decode b_Mg_init 7 = .ok (.putfield 9, 3) := by decide +kernel
theorem d_Mg_init_10 : decode b_Mg_init 10 = .ok (.aload_n 0, 1) := by decide +kernel
theorem d_Mg_init_11 : decode b_Mg_init 11 = .ok (.bipush (-2), 2) := by decide +kernel
theorem d_Mg_init_13 : decode b_Mg_init 13 = .ok (.putfield 15, 3) := by decide +kernel
theorem d_Mg_init_16 : decode b_Mg_init 16 = .ok (.return_, 1) := by decide +kernel
theorem d_Mo_init_0 : decode b_Mo_init 0 = .ok (.aload_n 0, 1) := by decide +kernel
theorem d_Mo_init_1 : decode b_Mo_init 1 = .ok (.invokespecial 1, 3) := by decide +kernel
theorem d_Mo_init_4 : decode b_Mo_init 4 = .ok (.aload_n 0, 1) := by decide +kernel
theorem d_Mo_init_5 : decode b_Mo_init 5 = .ok (.sipush 300, 3) := by decide +kernel
theorem d_Mo_init_8 : decode b_Mo_init 8 = .ok (.newarray .int, 2) := by decide +kernel
theorem d_Mo_init_10 : decode b_Mo_init 10 = .ok (.putfield 7, 3) := by decide +kernel
theorem d_Mo_init_13 : decode b_Mo_init 13 = .ok (.aload_n 0, 1) := by decide +kernel
theorem d_Mo_init_14 : decode b_Mo_init 14 = .ok (.iconst (-1), 1) := by decide +kernel
theorem d_Mo_init_15 : decode b_Mo_init 15 = .ok (.putfield 13, 3) := by decide +kernel
theorem d_Mo_init_18 : decode b_Mo_init 18 = .ok (.aload_n 0, 1) := by decide +kernel
theorem d_Mo_init_19 : decode b_Mo_init 19 = .ok (.new 17, 3) := by decide +kernel
theorem d_Mo_init_22 : decode b_Mo_init 22 = .ok (.dup, 1) := by decide +kernel
theorem d_Mo_init_23 : decode b_Mo_init 23 = .ok (.iconst 0, 1) := by decide +kernel
theorem d_Mo_init_24 : decode b_Mo_init 24 = .ok (.invokespecial 19, 3) := by decide +kernel
theorem d_Mo_init_27 : decode b_Mo_init 27 = .ok (.putfield 22, 3) := by decide +kernel
theorem d_Mo_init_30 : decode b_Mo_init 30 = .ok (.aload_n 0, 1) := by decide +kernel
theorem d_Mo_init_31 : decode b_Mo_init 31 = .ok (.bipush 25, 2) := by decide +kernel
theorem d_Mo_init_33 : decode b_Mo_init 33 = .ok (.anewarray 26, 3) := by decide +kernel
theorem d_Mo_init_36 : decode b_Mo_init 36 = .ok (.putfield 28, 3) := by decide +kernel
theorem d_Mo_init_39 : decode b_Mo_init 39 = .ok (.return_, 1) := by decide +kernel
theorem d_Mo_thrown_0 : decode b_Mo_thrown 0 = .ok (.aload_n 0, 1) := by decide +kernel
theorem d_Mo_thrown_1 : decode b_Mo_thrown 1 = .ok (.getfield 32, 3) := by decide +kernel
theorem d_Mo_thrown_4 : decode b_Mo_thrown 4 = .ok (.ireturn, 1) := by decide +kernel
theorem d_Mo_fault_0 : decode b_Mo_fault 0 = .ok (.aload_n 0, 1) := by decide +kernel
theorem d_Mo_fault_1 : decode b_Mo_fault 1 = .ok (.iconst 0, 1) := by decide +kernel
theorem d_Mo_fault_2 : decode b_Mo_fault 2 = .ok (.putfield 32, 3) := by decide +kernel
theorem d_Mo_fault_5 : decode b_Mo_fault 5 = .ok (.aload_n 0, 1) := by decide +kernel
theorem d_Mo_fault_6 : decode b_Mo_fault 6 = .ok (.getfield 13, 3) := by decide +kernel
theorem d_Mo_fault_9 : decode b_Mo_fault 9 = .ok (.ireturn, 1) := by decide +kernel
theorem d_Mo_things_0 : decode b_Mo_things 0 = .ok (.aload_n 0, 1) := by decide +kernel
theorem d_Mo_things_1 : decode b_Mo_things 1 = .ok (.iconst 0, 1) := by decide +kernel
theorem d_Mo_things_2 : decode b_Mo_things 2 = .ok (.putfield 32, 3) := by decide +kernel
theorem d_Mo_things_5 : decode b_Mo_things 5 = .ok (.aload_n 0, 1) := by decide +kernel
theorem d_Mo_things_6 : decode b_Mo_things 6 = .ok (.getfield 181, 3) := by decide +kernel
theorem d_Mo_things_9 : decode b_Mo_things 9 = .ok (.ireturn, 1) := by decide +kernel
theorem d_Mo_purge_0 : decode b_Mo_purge 0 = .ok (.aload_n 0, 1) := by decide +kernel
theorem d_Mo_purge_1 : decode b_Mo_purge 1 = .ok (.iconst 0, 1) := by decide +kernel
theorem d_Mo_purge_2 : decode b_Mo_purge 2 = .ok (.putfield 32, 3) := by decide +kernel
theorem d_Mo_purge_5 : decode b_Mo_purge 5 = .ok (.iconst 0, 1) := by decide +kernel
theorem d_Mo_purge_6 : decode b_Mo_purge 6 = .ok (.istore_n 2, 1) := by decide +kernel
theorem d_Mo_purge_7 : decode b_Mo_purge 7 = .ok (.aload_n 0, 1) := by decide +kernel
theorem d_Mo_purge_8 : decode b_Mo_purge 8 = .ok (.getfield 181, 3) := by decide +kernel
theorem d_Mo_purge_11 : decode b_Mo_purge 11 = .ok (.iconst 1, 1) := by decide +kernel
theorem d_Mo_purge_12 : decode b_Mo_purge 12 = .ok (.isub, 1) := by decide +kernel
theorem d_Mo_purge_13 : decode b_Mo_purge 13 = .ok (.istore_n 3, 1) := by decide +kernel
theorem d_Mo_purge_14 : decode b_Mo_purge 14 = .ok (.iload_n 3, 1) := by decide +kernel
theorem d_Mo_purge_15 : decode b_Mo_purge 15 = .ok (.ifCond .lt 30, 3) := by decide +kernel
theorem d_Mo_purge_45 : decode b_Mo_purge 45 = .ok (.iload_n 2, 1) := by decide +kernel
theorem d_Mo_purge_46 : decode b_Mo_purge 46 = .ok (.ireturn, 1) := by decide +kernel
theorem d_Mo_read_0 : decode b_Mo_read 0 = .ok (.aload_n 0, 1) := by decide +kernel
theorem d_Mo_read_1 : decode b_Mo_read 1 = .ok (.getfield 35, 3) := by decide +kernel
theorem d_Mo_read_4 : decode b_Mo_read 4 = .ok (.istore_n 1, 1) := by decide +kernel
theorem d_Mo_read_5 : decode b_Mo_read 5 = .ok (.aload_n 0, 1) := by decide +kernel
theorem d_Mo_read_6 : decode b_Mo_read 6 = .ok (.iconst 0, 1) := by decide +kernel
theorem d_Mo_read_7 : decode b_Mo_read 7 = .ok (.putfield 35, 3) := by decide +kernel
theorem d_Mo_read_10 : decode b_Mo_read 10 = .ok (.aload_n 0, 1) := by decide +kernel
theorem d_Mo_read_11 : decode b_Mo_read 11 = .ok (.iconst (-1), 1) := by decide +kernel
theorem d_Mo_read_12 : decode b_Mo_read 12 = .ok (.putfield 13, 3) := by decide +kernel
theorem d_Mo_read_15 : decode b_Mo_read 15 = .ok (.new 17, 3) := by decide +kernel
theorem d_Mo_read_18 : decode b_Mo_read 18 = .ok (.dup, 1) := by decide +kernel
theorem d_Mo_read_19 : decode b_Mo_read 19 = .ok (.iload_n 1, 1) := by decide +kernel
theorem d_Mo_read_20 : decode b_Mo_read 20 = .ok (.invokespecial 19, 3) := by decide +kernel
theorem d_Mo_read_23 : decode b_Mo_read 23 = .ok (.astore_n 2, 1) := by decide +kernel
theorem d_Mo_read_24 : decode b_Mo_read 24 = .ok (.iconst 0, 1) := by decide +kernel
theorem d_Mo_read_25 : decode b_Mo_read 25 = .ok (.istore_n 3, 1) := by decide +kernel
theorem d_Mo_read_26 : decode b_Mo_read 26 = .ok (.iload_n 3, 1) := by decide +kernel
theorem d_Mo_read_27 : decode b_Mo_read 27 = .ok (.iload_n 1, 1) := by decide +kernel
theorem d_Mo_read_28 : decode b_Mo_read 28 = .ok (.if_icmp .ge 21, 3) := by decide +kernel
theorem d_Mo_read_49 : decode b_Mo_read 49 = .ok (.iconst 0, 1) := by decide +kernel
theorem d_Mo_read_50 : decode b_Mo_read 50 = .ok (.istore_n 3, 1) := by decide +kernel
theorem d_Mo_read_51 : decode b_Mo_read 51 = .ok (.iload_n 3, 1) := by decide +kernel
theorem d_Mo_read_52 : decode b_Mo_read 52 = .ok (.iload_n 1, 1) := by decide +kernel
theorem d_Mo_read_53 : decode b_Mo_read 53 = .ok (.if_icmp .ge 141, 3) := by decide +kernel
theorem d_Mo_read_194 : decode b_Mo_read 194 = .ok (.aload_n 2, 1) := by decide +kernel
theorem d_Mo_read_195 : decode b_Mo_read 195 = .ok (.areturn, 1) := by decide +kernel
theorem d_Mo_valueOf_0 : decode b_Mo_valueOf 0 = .ok (.aconst_null, 1) := by decide +kernel
theorem d_Mo_valueOf_1 : decode b_Mo_valueOf 1 = .ok (.astore_n 2, 1) := by decide +kernel
theorem d_Mo_valueOf_2 : decode b_Mo_valueOf 2 = .ok (.iconst 0, 1) := by decide +kernel
theorem d_Mo_valueOf_3 : decode b_Mo_valueOf 3 = .ok (.istore_n 3, 1) := by decide +kernel
theorem d_Mo_valueOf_4 : decode b_Mo_valueOf 4 = .ok (.iload_n 3, 1) := by decide +kernel
theorem d_Mo_valueOf_5 : decode b_Mo_valueOf 5 = .ok (.aload_n 0, 1) := by decide +kernel
theorem d_Mo_valueOf_6 : decode b_Mo_valueOf 6 = .ok (.getfield 57, 3) := by decide +kernel
theorem d_Mo_valueOf_9 : decode b_Mo_valueOf 9 = .ok (.if_icmp .ge 134, 3) := by decide +kernel
theorem d_Mo_valueOf_143 : decode b_Mo_valueOf 143 = .ok (.aload_n 2, 1) := by decide +kernel
theorem d_Mo_valueOf_144 : decode b_Mo_valueOf 144 = .ok (.areturn, 1) := by decide +kernel
theorem d_Mo_cacheControl_0 : decode b_Mo_cacheControl 0 = .ok (.ldc2_w 109, 3) := by decide +kernel
theorem d_Mo_cacheControl_3 : decode b_Mo_cacheControl 3 = .ok (.ldc2_w 111, 3) := by decide +kernel
theorem d_Mo_cacheControl_6 : decode b_Mo_cacheControl 6 = .ok (.invokestatic 105, 3) := by decide +kernel
theorem d_Mo_cacheControl_9 : decode b_Mo_cacheControl 9 = .ok (.areturn, 1) := by decide +kernel
theorem d_Mo_word_0 : decode b_Mo_word 0 = .ok (.bipush (-2), 2) := by decide +kernel
theorem d_Mo_word_2 : decode b_Mo_word 2 = .ok (.istore_n 2, 1) := by decide +kernel
theorem d_Mo_word_3 : decode b_Mo_word 3 = .ok (.aload_n 0, 1) := by decide +kernel
theorem d_Mo_word_4 : decode b_Mo_word 4 = .ok (.ifnonnull 5, 3) := by decide +kernel
theorem d_Mo_word_7 : decode b_Mo_word 7 = .ok (.iload_n 2, 1) := by decide +kernel
theorem d_Mo_word_8 : decode b_Mo_word 8 = .ok (.ireturn, 1) := by decide +kernel
theorem d_Mo_has_0 : decode b_Mo_has 0 = .ok (.aload_n 0, 1) := by decide +kernel
theorem d_Mo_has_1 : decode b_Mo_has 1 = .ok (.lload_n 1, 1) := by decide +kernel
theorem d_Mo_has_2 : decode b_Mo_has 2 = .ok (.lload_n 3, 1) := by decide +kernel
theorem d_Mo_has_3 : decode b_Mo_has 3 = .ok (.invokestatic 105, 3) := by decide +kernel
theorem d_Mo_has_6 : decode b_Mo_has 6 = .ok (.invokestatic 113, 3) := by decide +kernel
theorem d_Mo_has_9 : decode b_Mo_has 9 = .ok (.bipush (-2), 2) := by decide +kernel
theorem d_Mo_has_11 : decode b_Mo_has 11 = .ok (.if_icmp .eq 7, 3) := by decide +kernel
theorem d_Mo_has_18 : decode b_Mo_has 18 = .ok (.iconst 0, 1) := by decide +kernel
theorem d_Mo_has_19 : decode b_Mo_has 19 = .ok (.ireturn, 1) := by decide +kernel
theorem d_Mo_numberIn_0 : decode b_Mo_numberIn 0 = .ok (.aload_n 0, 1) := by decide +kernel
theorem d_Mo_numberIn_1 : decode b_Mo_numberIn 1 = .ok (.aload_n 1, 1) := by decide +kernel
theorem d_Mo_numberIn_2 : decode b_Mo_numberIn 2 = .ok (.invokestatic 91, 3) := by decide +kernel
theorem d_Mo_numberIn_5 : decode b_Mo_numberIn 5 = .ok (.astore_n 2, 1) := by decide +kernel
theorem d_Mo_numberIn_6 : decode b_Mo_numberIn 6 = .ok (.aload_n 2, 1) := by decide +kernel
theorem d_Mo_numberIn_7 : decode b_Mo_numberIn 7 = .ok (.ifnonnull 7, 3) := by decide +kernel
theorem d_Mo_numberIn_10 : decode b_Mo_numberIn 10 = .ok (.iconst (-1), 1) := by decide +kernel
theorem d_Mo_numberIn_11 : decode b_Mo_numberIn 11 = .ok (.goto 8, 3) := by decide +kernel
theorem d_Mo_numberIn_19 : decode b_Mo_numberIn 19 = .ok (.ireturn, 1) := by decide +kernel
theorem d_Mo_etagOf_0 : decode b_Mo_etagOf 0 = .ok (.aload_n 0, 1) := by decide +kernel
theorem d_Mo_etagOf_1 : decode b_Mo_etagOf 1 = .ok (.ldc2_w 103, 3) := by decide +kernel
theorem d_Mo_etagOf_4 : decode b_Mo_etagOf 4 = .ok (.lconst 0, 1) := by decide +kernel
theorem d_Mo_etagOf_5 : decode b_Mo_etagOf 5 = .ok (.invokestatic 105, 3) := by decide +kernel
theorem d_Mo_etagOf_8 : decode b_Mo_etagOf 8 = .ok (.invokestatic 91, 3) := by decide +kernel
theorem d_Mo_etagOf_11 : decode b_Mo_etagOf 11 = .ok (.astore_n 1, 1) := by decide +kernel
theorem d_Mo_etagOf_12 : decode b_Mo_etagOf 12 = .ok (.aload_n 1, 1) := by decide +kernel
theorem d_Mo_etagOf_13 : decode b_Mo_etagOf 13 = .ok (.ifnull 8, 3) := by decide +kernel
theorem d_Mo_etagOf_21 : decode b_Mo_etagOf 21 = .ok (.aconst_null, 1) := by decide +kernel
theorem d_Mo_etagOf_22 : decode b_Mo_etagOf 22 = .ok (.goto 4, 3) := by decide +kernel
theorem d_Mo_etagOf_26 : decode b_Mo_etagOf 26 = .ok (.areturn, 1) := by decide +kernel
theorem d_Mo_theOne_0 : decode b_Mo_theOne 0 = .ok (.iconst (-1), 1) := by decide +kernel
theorem d_Mo_theOne_1 : decode b_Mo_theOne 1 = .ok (.istore_n 2, 1) := by decide +kernel
theorem d_Mo_theOne_2 : decode b_Mo_theOne 2 = .ok (.iconst 0, 1) := by decide +kernel
theorem d_Mo_theOne_3 : decode b_Mo_theOne 3 = .ok (.istore_n 3, 1) := by decide +kernel
theorem d_Mo_theOne_4 : decode b_Mo_theOne 4 = .ok (.iload_n 3, 1) := by decide +kernel
theorem d_Mo_theOne_5 : decode b_Mo_theOne 5 = .ok (.aload_n 0, 1) := by decide +kernel
theorem d_Mo_theOne_6 : decode b_Mo_theOne 6 = .ok (.getfield 181, 3) := by decide +kernel
theorem d_Mo_theOne_9 : decode b_Mo_theOne 9 = .ok (.if_icmp .ge 93, 3) := by decide +kernel
theorem d_Mo_theOne_102 : decode b_Mo_theOne 102 = .ok (.iload_n 2, 1) := by decide +kernel
theorem d_Mo_theOne_103 : decode b_Mo_theOne 103 = .ok (.ireturn, 1) := by decide +kernel
theorem d_Mo_placeOf_0 : decode b_Mo_placeOf 0 = .ok (.iconst 0, 1) := by decide +kernel
theorem d_Mo_placeOf_1 : decode b_Mo_placeOf 1 = .ok (.istore_n 2, 1) := by decide +kernel
theorem d_Mo_placeOf_2 : decode b_Mo_placeOf 2 = .ok (.iload_n 2, 1) := by decide +kernel
theorem d_Mo_placeOf_3 : decode b_Mo_placeOf 3 = .ok (.aload_n 0, 1) := by decide +kernel
theorem d_Mo_placeOf_4 : decode b_Mo_placeOf 4 = .ok (.getfield 181, 3) := by decide +kernel
theorem d_Mo_placeOf_7 : decode b_Mo_placeOf 7 = .ok (.if_icmp .ge 98, 3) := by decide +kernel
theorem d_Mo_placeOf_105 : decode b_Mo_placeOf 105 = .ok (.iconst (-1), 1) := by decide +kernel
theorem d_Mo_placeOf_106 : decode b_Mo_placeOf 106 = .ok (.ireturn, 1) := by decide +kernel
theorem d_Mo_hasStar_0 : decode b_Mo_hasStar 0 = .ok (.iconst 0, 1) := by decide +kernel
theorem d_Mo_hasStar_1 : decode b_Mo_hasStar 1 = .ok (.istore_n 1, 1) := by decide +kernel
theorem d_Mo_hasStar_2 : decode b_Mo_hasStar 2 = .ok (.iload_n 1, 1) := by decide +kernel
theorem d_Mo_hasStar_3 : decode b_Mo_hasStar 3 = .ok (.aload_n 0, 1) := by decide +kernel
theorem d_Mo_hasStar_4 : decode b_Mo_hasStar 4 = .ok (.arraylength, 1) := by decide +kernel
theorem d_Mo_hasStar_5 : decode b_Mo_hasStar 5 = .ok (.if_icmp .ge 29, 3) := by decide +kernel
theorem d_Mo_hasStar_34 : decode b_Mo_hasStar 34 = .ok (.iconst 0, 1) := by decide +kernel
theorem d_Mo_hasStar_35 : decode b_Mo_hasStar 35 = .ok (.ireturn, 1) := by decide +kernel
theorem d_Mo_isPath_0 : decode b_Mo_isPath 0 = .ok (.iload_n 0, 1) := by decide +kernel
theorem d_Mo_isPath_1 : decode b_Mo_isPath 1 = .ok (.ifCond .lt 13, 3) := by decide +kernel
theorem d_Mo_isPath_4 : decode b_Mo_isPath 4 = .ok (.iload_n 0, 1) := by decide +kernel
theorem d_Mo_isPath_5 : decode b_Mo_isPath 5 = .ok (.bipush 16, 2) := by decide +kernel
theorem d_Mo_isPath_7 : decode b_Mo_isPath 7 = .ok (.if_icmp .ge 7, 3) := by decide +kernel
theorem d_Mo_isPath_10 : decode b_Mo_isPath 10 = .ok (.iconst 1, 1) := by decide +kernel
theorem d_Mo_isPath_11 : decode b_Mo_isPath 11 = .ok (.goto 4, 3) := by decide +kernel
theorem d_Mo_isPath_15 : decode b_Mo_isPath 15 = .ok (.ireturn, 1) := by decide +kernel
theorem d_Mo_isPath_14 : decode b_Mo_isPath 14 = .ok (.iconst 0, 1) := by decide +kernel
set_option maxRecDepth 20000 in
theorem w_707 : Cond.methodLink "VaryStoreModel$Text" 1 objectInit ∈ TB := tb_in 707 (by decide +kernel) (by decide +kernel)
set_option maxRecDepth 20000 in
theorem w_711 : Cond.fieldLink "VaryStoreModel$Text" 7 "VaryStoreModel$Text" "begin" "[I"  ∈ TB := tb_in 711 (by decide +kernel) (by decide +kernel)
set_option maxRecDepth 20000 in
theorem w_713 : Cond.fieldLink "VaryStoreModel$Text" 13 "VaryStoreModel$Text" "colon" "[I"  ∈ TB := tb_in 713 (by decide +kernel) (by decide +kernel)
set_option maxRecDepth 20000 in
theorem w_715 : Cond.fieldLink "VaryStoreModel$Text" 16 "VaryStoreModel$Text" "end" "[I"  ∈ TB := tb_in 715 (by decide +kernel) (by decide +kernel)
set_option maxRecDepth 20000 in
theorem w_708 : Cond.fieldLink "VaryStoreModel$Text" 19 "VaryStoreModel$Text" "chars" "[I"  ∈ TB := tb_in 708 (by decide +kernel) (by decide +kernel)
set_option maxRecDepth 20000 in
theorem w_869 : Cond.methodLink "VaryStoreModel$Thing" 3 objectInit ∈ TB := tb_in 869 (by decide +kernel) (by decide +kernel)
set_option maxRecDepth 20000 in
theorem w_871 : Cond.fieldLink "VaryStoreModel$Thing" 9 "VaryStoreModel$Thing" "sMaxAge" "I"  ∈ TB := tb_in 871 (by decide +kernel) (by decide +kernel)
set_option maxRecDepth 20000 in
theorem w_873 : Cond.fieldLink "VaryStoreModel$Thing" 15 "VaryStoreModel$Thing" "maxAge" "I"  ∈ TB := tb_in 873 (by decide +kernel) (by decide +kernel)
set_option maxRecDepth 20000 in
theorem w_701 : Cond.methodLink "VaryStoreModel" 1 objectInit ∈ TB := tb_in 701 (by decide +kernel) (by decide +kernel)
set_option maxRecDepth 20000 in
theorem w_730 : Cond.fieldLink "VaryStoreModel" 7 "VaryStoreModel" "tape" "[I"  ∈ TB := tb_in 730 (by decide +kernel) (by decide +kernel)
set_option maxRecDepth 20000 in
theorem w_732 : Cond.fieldLink "VaryStoreModel" 13 "VaryStoreModel" "fault" "I"  ∈ TB := tb_in 732 (by decide +kernel) (by decide +kernel)
set_option maxRecDepth 20000 in
theorem w_703 : Cond.instantiable "VaryStoreModel$Text" 5 ∈ TB := tb_in 703 (by decide +kernel) (by decide +kernel)
set_option maxRecDepth 20000 in
theorem w_702 : Cond.classLink "VaryStoreModel" 17 "VaryStoreModel$Text" ∈ TB := tb_in 702 (by decide +kernel) (by decide +kernel)
set_option maxRecDepth 20000 in
theorem w_36 : Cond.initialized "VaryStoreModel$Text" ∈ TB := tb_in 36 (by decide +kernel) (by decide +kernel)
set_option maxRecDepth 20000 in
theorem w_706 : Cond.code ⟨"VaryStoreModel$Text", "<init>", "(I)V"⟩ prog_9_method_1_code 2 none ∈ TB := tb_in 706 (by decide +kernel) (by decide +kernel)
set_option maxRecDepth 20000 in
theorem w_704 : Cond.methodLink "VaryStoreModel" 19 ⟨"VaryStoreModel$Text", "<init>", "(I)V"⟩ ∈ TB := tb_in 704 (by decide +kernel) (by decide +kernel)
set_option maxRecDepth 20000 in
theorem w_705 : Cond.instanceMethod ⟨"VaryStoreModel$Text", "<init>", "(I)V"⟩ ∈ TB := tb_in 705 (by decide +kernel) (by decide +kernel)
set_option maxRecDepth 20000 in
theorem w_736 : Cond.fieldLink "VaryStoreModel" 22 "VaryStoreModel" "request" "LVaryStoreModel$Text;"  ∈ TB := tb_in 736 (by decide +kernel) (by decide +kernel)
set_option maxRecDepth 20000 in
theorem w_729 : Cond.arrayOver (.object "VaryStoreModel$Thing") ∈ NB := nb_in 729 (by decide +kernel) (by decide +kernel)
set_option maxRecDepth 20000 in
theorem w_728 : Cond.classLink "VaryStoreModel" 26 "VaryStoreModel$Thing" ∈ TB := tb_in 728 (by decide +kernel) (by decide +kernel)
set_option maxRecDepth 20000 in
theorem w_737 : Cond.fieldLink "VaryStoreModel" 28 "VaryStoreModel" "things" "[LVaryStoreModel$Thing;"  ∈ TB := tb_in 737 (by decide +kernel) (by decide +kernel)
set_option maxRecDepth 20000 in
theorem w_734 : Cond.fieldLink "VaryStoreModel" 32 "VaryStoreModel" "thrown" "I"  ∈ TB := tb_in 734 (by decide +kernel) (by decide +kernel)
set_option maxRecDepth 20000 in
theorem w_738 : Cond.fieldLink "VaryStoreModel" 181 "VaryStoreModel" "many" "I"  ∈ TB := tb_in 738 (by decide +kernel) (by decide +kernel)
set_option maxRecDepth 20000 in
theorem w_731 : Cond.fieldLink "VaryStoreModel" 35 "VaryStoreModel" "tapeLong" "I"  ∈ TB := tb_in 731 (by decide +kernel) (by decide +kernel)
set_option maxRecDepth 20000 in
theorem w_710 : Cond.fieldLink "VaryStoreModel" 57 "VaryStoreModel$Text" "lines" "I"  ∈ TB := tb_in 710 (by decide +kernel) (by decide +kernel)
set_option maxRecDepth 20000 in
theorem w_790 : Cond.constantLong "VaryStoreModel" 109 7161114182521021295 ∈ TB := tb_in 790 (by decide +kernel) (by decide +kernel)
set_option maxRecDepth 20000 in
theorem w_791 : Cond.constantLong "VaryStoreModel" 111 474400059244 ∈ TB := tb_in 791 (by decide +kernel) (by decide +kernel)
set_option maxRecDepth 20000 in
theorem w_35 : Cond.initialized "VaryStoreModel" ∈ TB := tb_in 35 (by decide +kernel) (by decide +kernel)
set_option maxRecDepth 20000 in
theorem w_794 : Cond.code ⟨"VaryStoreModel", "name", "(JJ)[I"⟩ prog_8_method_14_code 8 (some (.array .int)) ∈ TB := tb_in 794 (by decide +kernel) (by decide +kernel)
set_option maxRecDepth 20000 in
theorem w_792 : Cond.methodLink "VaryStoreModel" 105 ⟨"VaryStoreModel", "name", "(JJ)[I"⟩ ∈ TB := tb_in 792 (by decide +kernel) (by decide +kernel)
set_option maxRecDepth 20000 in
theorem w_793 : Cond.static ⟨"VaryStoreModel", "name", "(JJ)[I"⟩ ∈ TB := tb_in 793 (by decide +kernel) (by decide +kernel)
set_option maxRecDepth 20000 in
theorem w_835 : Cond.code ⟨"VaryStoreModel", "word", "([I[I)I"⟩ prog_8_method_20_code 9 (some .int) ∈ TB := tb_in 835 (by decide +kernel) (by decide +kernel)
set_option maxRecDepth 20000 in
theorem w_833 : Cond.methodLink "VaryStoreModel" 113 ⟨"VaryStoreModel", "word", "([I[I)I"⟩ ∈ TB := tb_in 833 (by decide +kernel) (by decide +kernel)
set_option maxRecDepth 20000 in
theorem w_834 : Cond.static ⟨"VaryStoreModel", "word", "([I[I)I"⟩ ∈ TB := tb_in 834 (by decide +kernel) (by decide +kernel)
set_option maxRecDepth 20000 in
theorem w_797 : Cond.code ⟨"VaryStoreModel", "valueOf", "(LVaryStoreModel$Text;[I)[I"⟩ prog_8_method_13_code 7 (some (.array .int)) ∈ TB := tb_in 797 (by decide +kernel) (by decide +kernel)
set_option maxRecDepth 20000 in
theorem w_795 : Cond.methodLink "VaryStoreModel" 91 ⟨"VaryStoreModel", "valueOf", "(LVaryStoreModel$Text;[I)[I"⟩ ∈ TB := tb_in 795 (by decide +kernel) (by decide +kernel)
set_option maxRecDepth 20000 in
theorem w_796 : Cond.static ⟨"VaryStoreModel", "valueOf", "(LVaryStoreModel$Text;[I)[I"⟩ ∈ TB := tb_in 796 (by decide +kernel) (by decide +kernel)
set_option maxRecDepth 20000 in
theorem w_913 : Cond.constantLong "VaryStoreModel" 103 1702125927 ∈ TB := tb_in 913 (by decide +kernel) (by decide +kernel)
set_option maxRecDepth 100000 in
theorem uw_MT : ∀ w ∈ u_ws R_MT F_MT 5, w ∈ TB := by decide +kernel
set_option maxRecDepth 100000 in
theorem fa_MT_7 : FA "VaryStoreModel$Text" 7 7 2 R_MT F_MT 5 t_MT := ⟨rfl, uw_MT, by decide, to_MT, n_MT, Or.inl w_711⟩
set_option maxRecDepth 100000 in
theorem fa_MT_13 : FA "VaryStoreModel$Text" 13 7 3 R_MT F_MT 5 t_MT := ⟨rfl, uw_MT, by decide, to_MT, n_MT, Or.inl w_713⟩
set_option maxRecDepth 100000 in
theorem fa_MT_16 : FA "VaryStoreModel$Text" 16 7 4 R_MT F_MT 5 t_MT := ⟨rfl, uw_MT, by decide, to_MT, n_MT, Or.inl w_715⟩
set_option maxRecDepth 100000 in
theorem fa_MT_19 : FA "VaryStoreModel$Text" 19 7 0 R_MT F_MT 5 t_MT := ⟨rfl, uw_MT, by decide, to_MT, n_MT, Or.inl w_708⟩
set_option maxRecDepth 100000 in
theorem uw_Mg : ∀ w ∈ u_ws R_Mg F_Mg 12, w ∈ TB := by decide +kernel
set_option maxRecDepth 100000 in
theorem fa_Mg_9 : FA "VaryStoreModel$Thing" 9 8 1 R_Mg F_Mg 12 t_Mg := ⟨rfl, uw_Mg, by decide, to_Mg, n_Mg, Or.inl w_871⟩
set_option maxRecDepth 100000 in
theorem fa_Mg_15 : FA "VaryStoreModel$Thing" 15 8 2 R_Mg F_Mg 12 t_Mg := ⟨rfl, uw_Mg, by decide, to_Mg, n_Mg, Or.inl w_873⟩
set_option maxRecDepth 100000 in
theorem uw_Mo : ∀ w ∈ u_ws R_Mo F_Mo 9, w ∈ TB := by decide +kernel
set_option maxRecDepth 100000 in
theorem fa_Mo_7 : FA "VaryStoreModel" 7 6 0 R_Mo F_Mo 9 t_Mo := ⟨rfl, uw_Mo, by decide, to_Mo, n_Mo, Or.inl w_730⟩
set_option maxRecDepth 100000 in
theorem fa_Mo_13 : FA "VaryStoreModel" 13 6 2 R_Mo F_Mo 9 t_Mo := ⟨rfl, uw_Mo, by decide, to_Mo, n_Mo, Or.inl w_732⟩
set_option maxRecDepth 100000 in
theorem fa_Mo_22 : FA "VaryStoreModel" 22 6 6 R_Mo F_Mo 9 t_Mo := ⟨rfl, uw_Mo, by decide, to_Mo, n_Mo, Or.inl w_736⟩
set_option maxRecDepth 100000 in
theorem fa_Mo_28 : FA "VaryStoreModel" 28 6 7 R_Mo F_Mo 9 t_Mo := ⟨rfl, uw_Mo, by decide, to_Mo, n_Mo, Or.inl w_737⟩
set_option maxRecDepth 100000 in
theorem fa_Mo_32 : FA "VaryStoreModel" 32 6 4 R_Mo F_Mo 9 t_Mo := ⟨rfl, uw_Mo, by decide, to_Mo, n_Mo, Or.inl w_734⟩
set_option maxRecDepth 100000 in
theorem fa_Mo_181 : FA "VaryStoreModel" 181 6 8 R_Mo F_Mo 9 t_Mo := ⟨rfl, uw_Mo, by decide, to_Mo, n_Mo, Or.inl w_738⟩
set_option maxRecDepth 100000 in
theorem fa_Mo_35 : FA "VaryStoreModel" 35 6 1 R_Mo F_Mo 9 t_Mo := ⟨rfl, uw_Mo, by decide, to_Mo, n_Mo, Or.inl w_731⟩
set_option maxRecDepth 100000 in
theorem fa_Mo_57 : FA "VaryStoreModel" 57 7 1 R_MT F_MT 5 t_MT := ⟨rfl, uw_MT, by decide, to_MT, n_MT, Or.inl w_710⟩
def k_MT_init : MS := ("VaryStoreModel$Text", b_MT_init, 2, none, "<init>", { frames := 1, cells := 4, slots := 300, locals := 12 }, [])
set_option maxRecDepth 100000 in
set_option maxHeartbeats 4000000 in
theorem c_MT_init (Γ : GE) (a : Nat) {M : HM}  (p0 : M (a) = some (.inr (7, [.null, .int (iI (0)), .null, .null, .null]))) : CT Γ k_MT_init y_MT_init [.ref (a), .int (iI (0))] M (a + 1) (fun v M' n' => a + 5 = n' ∧ (∀ q, q ≠ a + 1 → q ≠ a → q ≠ a + 2 → q ≠ a + 3 → q ≠ a + 4 → M' q = M q) ∧ v = none ∧ M' (a + 1) = some (.inl (Γ.2.2.1 1, 100, .inl (fun _ => iI 0))) ∧ M' (a) = some (.inr (7, [.ref (a + 4), .int (iI (0)), .ref (a + 1), .ref (a + 2), .ref (a + 3)])) ∧ M' (a + 2) = some (.inl (Γ.2.2.1 1, 100, .inl (fun _ => iI 0))) ∧ M' (a + 3) = some (.inl (Γ.2.2.1 1, 100, .inl (fun _ => iI 0))) ∧ M' (a + 4) = some (.inl (Γ.2.2.1 1, 0, .inl (fun _ => iI 0)))) := by
  refine CT.of (by decide) rfl rfl 0 rfl (Nat.le_of_ble_eq_true rfl) rfl ?_
  refine g_aload_n d_MT_init_0 rfl ?_
  refine g_objInit d_MT_init_1 w_707 w_56 w_57 (by decide) (Nat.le_of_ble_eq_true rfl) ?_
  refine g_aload_n d_MT_init_4 rfl ?_
  refine g_bipush d_MT_init_5 (by decide) ?_
  refine g_newai (k := 100) d_MT_init_7 w_118 (by decide) (by decide) (by decide) ?_
  refine g_putF fa_MT_7 d_MT_init_9 ((hu_ne (by omega)).trans p0) (Nat.le_of_ble_eq_true rfl) rfl w_711 rfl rfl rfl rfl ?_
  refine g_aload_n d_MT_init_12 rfl ?_
  refine g_bipush d_MT_init_13 (by decide) ?_
  refine g_newai (k := 100) d_MT_init_15 w_118 (by decide) (by decide) (by decide) ?_
  refine g_putF fa_MT_13 d_MT_init_17 ((hu_ne (by omega)).trans (hu_same _ _ _)) (Nat.le_of_ble_eq_true rfl) rfl w_713 rfl rfl rfl rfl ?_
  refine g_aload_n d_MT_init_20 rfl ?_
  refine g_bipush d_MT_init_21 (by decide) ?_
  refine g_newai (k := 100) d_MT_init_23 w_118 (by decide) (by decide) (by decide) ?_
  refine g_putF fa_MT_16 d_MT_init_25 ((hu_ne (by omega)).trans (hu_same _ _ _)) (Nat.le_of_ble_eq_true rfl) rfl w_715 rfl rfl rfl rfl ?_
  refine g_aload_n d_MT_init_28 rfl ?_
  refine g_iload_n d_MT_init_29 rfl ?_
  refine g_newai (k := 0) d_MT_init_30 w_118 (by decide) (by decide) (by decide) ?_
  refine g_putF fa_MT_19 d_MT_init_32 ((hu_ne (by omega)).trans (hu_same _ _ _)) (Nat.le_of_ble_eq_true rfl) rfl w_708 rfl rfl rfl rfl ?_
  refine g_vret d_MT_init_35 rfl ?_ (by decide) (by decide)
  exact ⟨rfl, fun q e0 e1 e2 e3 e4 => ((hu_ne (by omega)).trans ((hu_ne (by omega)).trans ((hu_ne (by omega)).trans ((hu_ne (by omega)).trans ((hu_ne (by omega)).trans ((hu_ne (by omega)).trans ((hu_ne (by omega)).trans ((hu_ne (by omega)).trans rfl)))))))), rfl, ((hu_ne (by omega)).trans ((hu_ne (by omega)).trans ((hu_ne (by omega)).trans ((hu_ne (by omega)).trans ((hu_ne (by omega)).trans ((hu_ne (by omega)).trans ((hu_ne (by omega)).trans (hu_same _ _ _)))))))), (hu_same _ _ _), ((hu_ne (by omega)).trans ((hu_ne (by omega)).trans ((hu_ne (by omega)).trans ((hu_ne (by omega)).trans ((hu_ne (by omega)).trans (hu_same _ _ _)))))), ((hu_ne (by omega)).trans ((hu_ne (by omega)).trans ((hu_ne (by omega)).trans (hu_same _ _ _)))), ((hu_ne (by omega)).trans (hu_same _ _ _))⟩
def k_Mg_init : MS := ("VaryStoreModel$Thing", b_Mg_init, 1, none, "<init>", { frames := 1, cells := 0, slots := 0, locals := 12 }, [])
set_option maxRecDepth 100000 in
set_option maxHeartbeats 4000000 in
theorem c_Mg_init (Γ : GE) (a : Nat) {M : HM}  (p0 : M (a) = some (.inr (8, [.int (iI (0)), .int (iI (0)), .int (iI (0)), .int (iI (0)), .int (iI (0)), .int (iI (0)), .int (iI (0)), .int (iI (0)), .null, .null, .null, .long (0)]))) : CT Γ k_Mg_init y_Mg_init [.ref (a)] M (a + 1) (fun v M' n' => a + 1 = n' ∧ (∀ q, q ≠ a → M' q = M q) ∧ v = none ∧ M' (a) = some (.inr (8, [.int (iI (0)), .int (iI ((-2))), .int (iI ((-2))), .int (iI (0)), .int (iI (0)), .int (iI (0)), .int (iI (0)), .int (iI (0)), .null, .null, .null, .long (0)]))) := by
  refine CT.of (by decide) rfl rfl 0 rfl (Nat.le_of_ble_eq_true rfl) rfl ?_
  refine g_aload_n d_Mg_init_0 rfl ?_
  refine g_objInit d_Mg_init_1 w_869 w_56 w_57 (by decide) (Nat.le_of_ble_eq_true rfl) ?_
  refine g_aload_n d_Mg_init_4 rfl ?_
  refine g_bipush d_Mg_init_5 (by decide) ?_
  refine g_put fa_Mg_9 d_Mg_init_7 p0 (Nat.le_of_ble_eq_true rfl) rfl rfl rfl ?_
  refine g_aload_n d_Mg_init_10 rfl ?_
  refine g_bipush d_Mg_init_11 (by decide) ?_
  refine g_put fa_Mg_15 d_Mg_init_13 (hu_same _ _ _) (Nat.le_of_ble_eq_true rfl) rfl rfl rfl ?_
  refine g_vret d_Mg_init_16 rfl ?_ (by decide) (by decide)
  exact ⟨rfl, fun q e0 => ((hu_ne (by omega)).trans ((hu_ne (by omega)).trans rfl)), rfl, (hu_same _ _ _)⟩
def k_Mo_init : MS := ("VaryStoreModel", b_Mo_init, 1, none, "<init>", { frames := 2, cells := 7, slots := 630, locals := 33 }, [])
set_option maxRecDepth 100000 in
set_option maxHeartbeats 4000000 in
theorem c_Mo_init (Γ : GE) (a : Nat) {M : HM}  (p0 : M (a) = some (.inr (6, [.null, .int (iI (0)), .int (iI (0)), .int (iI (0)), .int (iI (0)), .long (0), .null, .null, .int (iI (0))]))) : CT Γ k_Mo_init y_Mo_init [.ref (a)] M (a + 1) (fun v M' n' => a + 8 = n' ∧ (∀ q, q ≠ a + 1 → q ≠ a → q ≠ a + 2 → q ≠ a + 3 → q ≠ a + 4 → q ≠ a + 5 → q ≠ a + 6 → q ≠ a + 7 → M' q = M q) ∧ v = none ∧ M' (a + 1) = some (.inl (Γ.2.2.1 1, 300, .inl (fun _ => iI 0))) ∧ M' (a) = some (.inr (6, [.ref (a + 1), .int (iI (0)), .int (iI ((-1))), .int (iI (0)), .int (iI (0)), .long (0), .ref (a + 2), .ref (a + 7), .int (iI (0))])) ∧ M' (a + 2) = some (.inr (7, [.ref (a + 6), .int (iI (0)), .ref (a + 3), .ref (a + 4), .ref (a + 5)])) ∧ M' (a + 3) = some (.inl (Γ.2.2.1 1, 100, .inl (fun _ => iI 0))) ∧ M' (a + 4) = some (.inl (Γ.2.2.1 1, 100, .inl (fun _ => iI 0))) ∧ M' (a + 5) = some (.inl (Γ.2.2.1 1, 100, .inl (fun _ => iI 0))) ∧ M' (a + 6) = some (.inl (Γ.2.2.1 1, 0, .inl (fun _ => iI 0))) ∧ M' (a + 7) = some (.inl (Γ.2.2.1 4, 25, .inr (.inr (.inr (.inr (fun _ => none))))))) := by
  refine CT.of (by decide) rfl rfl 0 rfl (Nat.le_of_ble_eq_true rfl) rfl ?_
  refine g_aload_n d_Mo_init_0 rfl ?_
  refine g_objInit d_Mo_init_1 w_701 w_56 w_57 (by decide) (Nat.le_of_ble_eq_true rfl) ?_
  refine g_aload_n d_Mo_init_4 rfl ?_
  refine g_sipush d_Mo_init_5 (by decide) ?_
  refine g_newai (k := 300) d_Mo_init_8 w_118 (by decide) (by decide) (by decide) ?_
  refine g_putF fa_Mo_7 d_Mo_init_10 ((hu_ne (by omega)).trans p0) (Nat.le_of_ble_eq_true rfl) rfl w_730 rfl rfl rfl rfl ?_
  refine g_aload_n d_Mo_init_13 rfl ?_
  refine g_iconst d_Mo_init_14 ?_
  refine g_put fa_Mo_13 d_Mo_init_15 (hu_same _ _ _) (Nat.le_of_ble_eq_true rfl) rfl rfl rfl ?_
  refine g_aload_n d_Mo_init_18 rfl ?_
  refine g_new (ci := 7) t_MT [.null, .int (iI (0)), .null, .null, .null] rfl uw_MT to_MT (fun j hj => by rcases (show j = 0 ∨ j = 1 ∨ j = 2 ∨ j = 3 ∨ j = 4 by omega) with rfl | rfl | rfl | rfl | rfl <;> rfl) d_Mo_init_19 w_702 w_703 w_36 (by decide) (by decide) ?_
  refine g_dup d_Mo_init_22 rfl ?_
  refine g_iconst d_Mo_init_23 ?_
  refine g_callI1 (ν := k_MT_init) ⟨w_704, w_36, w_706, by decide, by decide, by decide +kernel⟩ w_705 rfl rfl (c_MT_init Γ (a + 2)  (hu_same _ _ _)) d_Mo_init_24 ⟨⟨by decide, by decide⟩, ⟨by decide, by decide⟩⟩ (Nat.le_of_ble_eq_true rfl) (fun v1 M1 n1 hQ1 hn1 hd1 => ?_)
  obtain ⟨rfl, hf1, rfl, hw1_0, hw1_1, hw1_2, hw1_3, hw1_4⟩ := hQ1
  refine g_put fa_Mo_22 d_Mo_init_27 ((hf1 (a) (by omega) (by omega) (by omega) (by omega) (by omega)).trans ((hu_ne (by omega)).trans (hu_same _ _ _))) (Nat.le_of_ble_eq_true rfl) rfl rfl rfl ?_
  refine g_aload_n d_Mo_init_30 rfl ?_
  refine g_bipush d_Mo_init_31 (by decide) ?_
  refine g_anew (k := 25) 4 rfl d_Mo_init_33 w_728 w_729 (by decide) (by decide) (by decide) ?_
  refine g_putF fa_Mo_28 d_Mo_init_36 ((hu_ne (by omega)).trans (hu_same _ _ _)) (Nat.le_of_ble_eq_true rfl) rfl w_737 rfl rfl rfl rfl ?_
  refine g_vret d_Mo_init_39 rfl ?_ (by decide) (by decide)
  exact ⟨rfl, fun q e0 e1 e2 e3 e4 e5 e6 e7 => ((hu_ne (by omega)).trans ((hu_ne (by omega)).trans ((hu_ne (by omega)).trans ((hf1 q (by omega) (by omega) (by omega) (by omega) (by omega)).trans ((hu_ne (by omega)).trans ((hu_ne (by omega)).trans ((hu_ne (by omega)).trans ((hu_ne (by omega)).trans rfl)))))))), rfl, ((hu_ne (by omega)).trans ((hu_ne (by omega)).trans ((hu_ne (by omega)).trans ((hf1 (a + 1) (by omega) (by omega) (by omega) (by omega) (by omega)).trans ((hu_ne (by omega)).trans ((hu_ne (by omega)).trans ((hu_ne (by omega)).trans (hu_same _ _ _)))))))), (hu_same _ _ _), ((hu_ne (by omega)).trans ((hu_ne (by omega)).trans ((hu_ne (by omega)).trans hw1_1))), ((hu_ne (by omega)).trans ((hu_ne (by omega)).trans ((hu_ne (by omega)).trans hw1_0))), ((hu_ne (by omega)).trans ((hu_ne (by omega)).trans ((hu_ne (by omega)).trans hw1_2))), ((hu_ne (by omega)).trans ((hu_ne (by omega)).trans ((hu_ne (by omega)).trans hw1_3))), ((hu_ne (by omega)).trans ((hu_ne (by omega)).trans ((hu_ne (by omega)).trans hw1_4))), ((hu_ne (by omega)).trans (hu_same _ _ _))⟩
def k_Mo_thrown : MS := ("VaryStoreModel", b_Mo_thrown, 1, (some .int), "thrown", { frames := 0, cells := 0, slots := 0, locals := 0 }, [])
set_option maxRecDepth 100000 in
set_option maxHeartbeats 4000000 in
theorem c_Mo_thrown (Γ : GE) (r : Nat) (fa : Int) (tm : Int) (th : Int) (ev : Int64) (rq : Nat) {M : HM} {n : Nat}  (p0 : M (r) = some (.inr (6, [.ref (r + 1), .int (iI (0)), .int (iI (fa)), .int (iI (tm)), .int (iI (th)), .long (ev), .ref (rq), .ref (r + 7), .int (iI (0))]))) : CT Γ k_Mo_thrown y_Mo_thrown [.ref (r)] M (n) (fun v M' n' => n = n' ∧ (∀ q, M' q = M q) ∧ v = some (.int (iI (th)))) := by
  refine CT.of (by decide) rfl rfl 0 rfl (Nat.le_of_ble_eq_true rfl) rfl ?_
  refine g_aload_n d_Mo_thrown_0 rfl ?_
  refine g_get fa_Mo_32 d_Mo_thrown_1 p0 rfl ?_
  refine g_iret d_Mo_thrown_4 rfl ?_ (by decide) (by decide)
  exact ⟨rfl, fun q  => rfl, rfl⟩
def k_Mo_fault : MS := ("VaryStoreModel", b_Mo_fault, 1, (some .int), "fault", { frames := 0, cells := 0, slots := 0, locals := 0 }, [])
set_option maxRecDepth 100000 in
set_option maxHeartbeats 4000000 in
theorem c_Mo_fault (Γ : GE) (r : Nat) (fa : Int) (tm : Int) (th : Int) (ev : Int64) (rq : Nat) {M : HM} {n : Nat}  (p0 : M (r) = some (.inr (6, [.ref (r + 1), .int (iI (0)), .int (iI (fa)), .int (iI (tm)), .int (iI (th)), .long (ev), .ref (rq), .ref (r + 7), .int (iI (0))]))) : CT Γ k_Mo_fault y_Mo_fault [.ref (r)] M (n) (fun v M' n' => n = n' ∧ (∀ q, q ≠ r → M' q = M q) ∧ v = some (.int (iI (fa))) ∧ M' (r) = some (.inr (6, [.ref (r + 1), .int (iI (0)), .int (iI (fa)), .int (iI (tm)), .int (iI (0)), .long (ev), .ref (rq), .ref (r + 7), .int (iI (0))]))) := by
  refine CT.of (by decide) rfl rfl 0 rfl (Nat.le_of_ble_eq_true rfl) rfl ?_
  refine g_aload_n d_Mo_fault_0 rfl ?_
  refine g_iconst d_Mo_fault_1 ?_
  refine g_put fa_Mo_32 d_Mo_fault_2 p0 (Nat.le_of_ble_eq_true rfl) rfl rfl rfl ?_
  refine g_aload_n d_Mo_fault_5 rfl ?_
  refine g_get fa_Mo_13 d_Mo_fault_6 (hu_same _ _ _) rfl ?_
  refine g_iret d_Mo_fault_9 rfl ?_ (by decide) (by decide)
  exact ⟨rfl, fun q e0 => ((hu_ne (by omega)).trans rfl), rfl, (hu_same _ _ _)⟩
def k_Mo_things : MS := ("VaryStoreModel", b_Mo_things, 1, (some .int), "things", { frames := 0, cells := 0, slots := 0, locals := 0 }, [])
set_option maxRecDepth 100000 in
set_option maxHeartbeats 4000000 in
theorem c_Mo_things (Γ : GE) (r : Nat) (fa : Int) (tm : Int) (th : Int) (ev : Int64) (rq : Nat) {M : HM} {n : Nat}  (p0 : M (r) = some (.inr (6, [.ref (r + 1), .int (iI (0)), .int (iI (fa)), .int (iI (tm)), .int (iI (th)), .long (ev), .ref (rq), .ref (r + 7), .int (iI (0))]))) : CT Γ k_Mo_things y_Mo_things [.ref (r)] M (n) (fun v M' n' => n = n' ∧ (∀ q, q ≠ r → M' q = M q) ∧ v = some (.int (iI (0))) ∧ M' (r) = some (.inr (6, [.ref (r + 1), .int (iI (0)), .int (iI (fa)), .int (iI (tm)), .int (iI (0)), .long (ev), .ref (rq), .ref (r + 7), .int (iI (0))]))) := by
  refine CT.of (by decide) rfl rfl 0 rfl (Nat.le_of_ble_eq_true rfl) rfl ?_
  refine g_aload_n d_Mo_things_0 rfl ?_
  refine g_iconst d_Mo_things_1 ?_
  refine g_put fa_Mo_32 d_Mo_things_2 p0 (Nat.le_of_ble_eq_true rfl) rfl rfl rfl ?_
  refine g_aload_n d_Mo_things_5 rfl ?_
  refine g_get fa_Mo_181 d_Mo_things_6 (hu_same _ _ _) rfl ?_
  refine g_iret d_Mo_things_9 rfl ?_ (by decide) (by decide)
  exact ⟨rfl, fun q e0 => ((hu_ne (by omega)).trans rfl), rfl, (hu_same _ _ _)⟩
def k_Mo_purge0 : MS := ("VaryStoreModel", b_Mo_purge, 4, (some .int), "purge", { frames := 0, cells := 0, slots := 0, locals := 0 }, [])
set_option maxRecDepth 100000 in
set_option maxHeartbeats 4000000 in
theorem c_Mo_purge0 (Γ : GE) (r : Nat) (fa : Int) (tm : Int) (th : Int) (ev : Int64) (rq : Nat) (path : Int) {M : HM} {n : Nat}  (p0 : M (r) = some (.inr (6, [.ref (r + 1), .int (iI (0)), .int (iI (fa)), .int (iI (tm)), .int (iI (th)), .long (ev), .ref (rq), .ref (r + 7), .int (iI (0))]))) : CT Γ k_Mo_purge0 y_Mo_purge [.ref (r), .int (iI (path))] M (n) (fun v M' n' => n = n' ∧ (∀ q, q ≠ r → M' q = M q) ∧ v = some (.int (iI (0))) ∧ M' (r) = some (.inr (6, [.ref (r + 1), .int (iI (0)), .int (iI (fa)), .int (iI (tm)), .int (iI (0)), .long (ev), .ref (rq), .ref (r + 7), .int (iI (0))]))) := by
  refine CT.of (by decide) rfl rfl 2 rfl (Nat.le_of_ble_eq_true rfl) rfl ?_
  refine g_aload_n d_Mo_purge_0 rfl ?_
  refine g_iconst d_Mo_purge_1 ?_
  refine g_put fa_Mo_32 d_Mo_purge_2 p0 (Nat.le_of_ble_eq_true rfl) rfl rfl rfl ?_
  refine g_iconst d_Mo_purge_5 ?_
  refine g_istore_n d_Mo_purge_6 (by decide) rfl ?_
  refine g_aload_n d_Mo_purge_7 rfl ?_
  refine g_get fa_Mo_181 d_Mo_purge_8 (hu_same _ _ _) rfl ?_
  refine g_iconst d_Mo_purge_11 ?_
  refine g_isub d_Mo_purge_12 ?_
  refine g_istore_n d_Mo_purge_13 (by decide) rfl ?_
  refine g_iload_n d_Mo_purge_14 rfl ?_
  refine g_if_lt (tgt := 45) d_Mo_purge_15 (by decide) (fun _ => ?_) (fun h1 => False.elim (by omega))
  refine g_iload_n d_Mo_purge_45 rfl ?_
  refine g_iret d_Mo_purge_46 rfl ?_ (by decide) (by decide)
  exact ⟨rfl, fun q e0 => ((hu_ne (by omega)).trans rfl), rfl, (hu_same _ _ _)⟩
def k_Mo_read0 : MS := ("VaryStoreModel", b_Mo_read, 6, (some (.object "VaryStoreModel$Text")), "read", { frames := 2, cells := 5, slots := 305, locals := 33 }, [])
set_option maxRecDepth 100000 in
set_option maxHeartbeats 4000000 in
theorem c_Mo_read0 (Γ : GE) (r : Nat) (fa : Int) (tm : Int) (th : Int) (ev : Int64) (rq : Nat) {M : HM} {n : Nat} (hrn : r + 8 ≤ n) (p0 : M (r) = some (.inr (6, [.ref (r + 1), .int (iI (0)), .int (iI (fa)), .int (iI (tm)), .int (iI (th)), .long (ev), .ref (rq), .ref (r + 7), .int (iI (0))]))) : CT Γ k_Mo_read0 y_Mo_read [.ref (r)] M (n) (fun v M' n' => n + 5 = n' ∧ (∀ q, q ≠ r → q ≠ n → q ≠ n + 1 → q ≠ n + 2 → q ≠ n + 3 → q ≠ n + 4 → M' q = M q) ∧ v = some (.ref (n)) ∧ M' (r) = some (.inr (6, [.ref (r + 1), .int (iI (0)), .int (iI ((-1))), .int (iI (tm)), .int (iI (th)), .long (ev), .ref (rq), .ref (r + 7), .int (iI (0))])) ∧ M' (n) = some (.inr (7, [.ref (n + 4), .int (iI (0)), .ref (n + 1), .ref (n + 2), .ref (n + 3)])) ∧ M' (n + 1) = some (.inl (Γ.2.2.1 1, 100, .inl (fun _ => iI 0))) ∧ M' (n + 2) = some (.inl (Γ.2.2.1 1, 100, .inl (fun _ => iI 0))) ∧ M' (n + 3) = some (.inl (Γ.2.2.1 1, 100, .inl (fun _ => iI 0))) ∧ M' (n + 4) = some (.inl (Γ.2.2.1 1, 0, .inl (fun _ => iI 0)))) := by
  refine CT.of (by decide) rfl rfl 5 rfl (Nat.le_of_ble_eq_true rfl) rfl ?_
  refine g_aload_n d_Mo_read_0 rfl ?_
  refine g_get fa_Mo_35 d_Mo_read_1 p0 rfl ?_
  refine g_istore_n d_Mo_read_4 (by decide) rfl ?_
  refine g_aload_n d_Mo_read_5 rfl ?_
  refine g_iconst d_Mo_read_6 ?_
  refine g_put fa_Mo_35 d_Mo_read_7 p0 (Nat.le_of_ble_eq_true rfl) rfl rfl rfl ?_
  refine g_aload_n d_Mo_read_10 rfl ?_
  refine g_iconst d_Mo_read_11 ?_
  refine g_put fa_Mo_13 d_Mo_read_12 (hu_same _ _ _) (Nat.le_of_ble_eq_true rfl) rfl rfl rfl ?_
  refine g_new (ci := 7) t_MT [.null, .int (iI (0)), .null, .null, .null] rfl uw_MT to_MT (fun j hj => by rcases (show j = 0 ∨ j = 1 ∨ j = 2 ∨ j = 3 ∨ j = 4 by omega) with rfl | rfl | rfl | rfl | rfl <;> rfl) d_Mo_read_15 w_702 w_703 w_36 (by decide) (by decide) ?_
  refine g_dup d_Mo_read_18 rfl ?_
  refine g_iload_n d_Mo_read_19 rfl ?_
  refine g_callI1 (ν := k_MT_init) ⟨w_704, w_36, w_706, by decide, by decide, by decide +kernel⟩ w_705 rfl rfl (c_MT_init Γ (n)  (hu_same _ _ _)) d_Mo_read_20 ⟨⟨by decide, by decide⟩, ⟨by decide, by decide⟩⟩ (Nat.le_of_ble_eq_true rfl) (fun v1 M1 n1 hQ1 hn1 hd1 => ?_)
  obtain ⟨rfl, hf1, rfl, hw1_0, hw1_1, hw1_2, hw1_3, hw1_4⟩ := hQ1
  refine g_astore_n d_Mo_read_23 (by decide) rfl ?_
  refine g_iconst d_Mo_read_24 ?_
  refine g_istore_n d_Mo_read_25 (by decide) rfl ?_
  refine g_iload_n d_Mo_read_26 rfl ?_
  refine g_iload_n d_Mo_read_27 rfl ?_
  refine g_icmp_ge (tgt := 49) d_Mo_read_28 (by decide) (fun _ => ?_) (fun h2 => False.elim (by omega))
  refine g_iconst d_Mo_read_49 ?_
  refine g_istore_n d_Mo_read_50 (by decide) rfl ?_
  refine g_iload_n d_Mo_read_51 rfl ?_
  refine g_iload_n d_Mo_read_52 rfl ?_
  refine g_icmp_ge (tgt := 194) d_Mo_read_53 (by decide) (fun _ => ?_) (fun h3 => False.elim (by omega))
  refine g_aload_n d_Mo_read_194 rfl ?_
  refine g_aret (rt := (.object "VaryStoreModel$Text")) (by first | exact Or.inl ⟨_, rfl⟩ | exact Or.inr ⟨_, rfl⟩) (by first | exact Or.inl rfl | exact Or.inr ⟨_, rfl⟩) d_Mo_read_195 rfl ?_ (by decide) (by decide)
  exact ⟨rfl, fun q e0 e1 e2 e3 e4 e5 => ((hf1 q (by omega) (by omega) (by omega) (by omega) (by omega)).trans ((hu_ne (by omega)).trans ((hu_ne (by omega)).trans ((hu_ne (by omega)).trans rfl)))), rfl, ((hf1 (r) (by omega) (by omega) (by omega) (by omega) (by omega)).trans ((hu_ne (by omega)).trans (hu_same _ _ _))), hw1_1, hw1_0, hw1_2, hw1_3, hw1_4⟩
def k_Mo_valueOf0 : MS := ("VaryStoreModel", b_Mo_valueOf, 7, (some (.array .int)), "valueOf", { frames := 0, cells := 0, slots := 0, locals := 0 }, [])
set_option maxRecDepth 100000 in
set_option maxHeartbeats 4000000 in
theorem c_Mo_valueOf0 (Γ : GE) (t : Nat) (m : Nat) (x0 : Nat) (x1 : Nat) (x2 : Nat) (x3 : Nat) {M : HM} {n : Nat}  (p0 : M (t) = some (.inr (7, [.ref (x0), .int (iI (0)), .ref (x1), .ref (x2), .ref (x3)]))) : CT Γ k_Mo_valueOf0 y_Mo_valueOf [.ref (t), .ref (m)] M (n) (fun v M' n' => n = n' ∧ (∀ q, M' q = M q) ∧ v = some (.null)) := by
  refine CT.of (by decide) rfl rfl 5 rfl (Nat.le_of_ble_eq_true rfl) rfl ?_
  refine g_null d_Mo_valueOf_0 ?_
  refine g_astore_nN d_Mo_valueOf_1 (by decide) rfl ?_
  refine g_iconst d_Mo_valueOf_2 ?_
  refine g_istore_n d_Mo_valueOf_3 (by decide) rfl ?_
  refine g_iload_n d_Mo_valueOf_4 rfl ?_
  refine g_aload_n d_Mo_valueOf_5 rfl ?_
  refine g_get fa_Mo_57 d_Mo_valueOf_6 p0 rfl ?_
  refine g_icmp_ge (tgt := 143) d_Mo_valueOf_9 (by decide) (fun _ => ?_) (fun h1 => False.elim (by omega))
  refine g_aload_nN d_Mo_valueOf_143 rfl ?_
  refine g_aret (rt := (.array .int)) (by first | exact Or.inl ⟨_, rfl⟩ | exact Or.inr ⟨_, rfl⟩) (by first | exact Or.inl rfl | exact Or.inr ⟨_, rfl⟩) d_Mo_valueOf_144 rfl ?_ (by decide) (by decide)
  exact ⟨rfl, fun q  => rfl, rfl⟩
def k_Mo_cacheControl : MS := ("VaryStoreModel", b_Mo_cacheControl, 0, (some (.array .int)), "cacheControl", { frames := 1, cells := 1, slots := 16, locals := 27 }, [])
set_option maxRecDepth 100000 in
set_option maxHeartbeats 4000000 in
theorem c_Mo_cacheControl (Γ : GE)  {M : HM} {n : Nat}   : CT Γ k_Mo_cacheControl y_Mo_cacheControl [] M (n) (fun v M' n' => n + 1 = n' ∧ (∀ q, q ≠ n → M' q = M q) ∧ ∃ (kn1x0 : Nat) (fn1x1 : Nat → Int32), v = some (.ref (n)) ∧ kn1x0 ≤ 16 ∧ M' (n) = some (.inl (Γ.2.2.1 1, kn1x0, .inl (fn1x1)))) := by
  refine CT.of (by decide) rfl rfl 0 rfl (Nat.le_of_ble_eq_true rfl) rfl ?_
  refine g_ldcL w_790 d_Mo_cacheControl_0 ?_
  refine g_ldcL w_791 d_Mo_cacheControl_3 ?_
  refine g_callS2 (ν := k_Mo_name) ⟨w_792, w_35, w_794, by decide, by decide, by decide +kernel⟩ w_793 (c_Mo_name Γ (7161114182521021295) (474400059244)  ) d_Mo_cacheControl_6 ⟨⟨by decide, by decide⟩, ⟨by decide, by decide⟩⟩ (Nat.le_of_ble_eq_true rfl) (fun v1 M1 n1 hQ1 hn1 hd1 => ?_)
  obtain ⟨rfl, hf1, kn1x0, fn1x1, rfl, hb1_kn1x0_0, hw1_0⟩ := hQ1
  refine g_aret (rt := (.array .int)) (by first | exact Or.inl ⟨_, rfl⟩ | exact Or.inr ⟨_, rfl⟩) (by first | exact Or.inl rfl | exact Or.inr ⟨_, rfl⟩) d_Mo_cacheControl_9 rfl ?_ (by decide) (by decide)
  exact ⟨rfl, fun q e0 => ((hf1 q (by omega)).trans rfl), kn1x0, fn1x1, rfl, hb1_kn1x0_0, hw1_0⟩
def k_Mo_word0 : MS := ("VaryStoreModel", b_Mo_word, 9, (some .int), "word", { frames := 0, cells := 0, slots := 0, locals := 0 }, [])
set_option maxRecDepth 100000 in
set_option maxHeartbeats 4000000 in
theorem c_Mo_word0 (Γ : GE) (m : Nat) {M : HM} {n : Nat}   : CT Γ k_Mo_word0 y_Mo_word [.null, .ref (m)] M (n) (fun v M' n' => n = n' ∧ (∀ q, M' q = M q) ∧ v = some (.int (iI ((-2))))) := by
  refine CT.of (by decide) rfl rfl 7 rfl (Nat.le_of_ble_eq_true rfl) rfl ?_
  refine g_bipush d_Mo_word_0 (by decide) ?_
  refine g_istore_n d_Mo_word_2 (by decide) rfl ?_
  refine g_aload_nN d_Mo_word_3 rfl ?_
  refine g_ifnonnullN d_Mo_word_4 ?_
  refine g_iload_n d_Mo_word_7 rfl ?_
  refine g_iret d_Mo_word_8 rfl ?_ (by decide) (by decide)
  exact ⟨rfl, fun q  => rfl, rfl⟩
def k_Mo_has0 : MS := ("VaryStoreModel", b_Mo_has, 5, (some .boolean), "has", { frames := 1, cells := 1, slots := 16, locals := 28 }, [])
set_option maxRecDepth 100000 in
set_option maxHeartbeats 4000000 in
theorem c_Mo_has0 (Γ : GE) (w1 : Int64) (w2 : Int64) {M : HM} {n : Nat}   : CT Γ k_Mo_has0 y_Mo_has [.null, .long (w1), .long (w2)] M (n) (fun v M' n' => n + 1 = n' ∧ (∀ q, q ≠ n → M' q = M q) ∧ v = some (.int (iI (0)))) := by
  refine CT.of (by decide) rfl rfl 0 rfl (Nat.le_of_ble_eq_true rfl) rfl ?_
  refine g_aload_nN d_Mo_has_0 rfl ?_
  refine g_lload_n d_Mo_has_1 rfl ?_
  refine g_lload_n d_Mo_has_2 rfl ?_
  refine g_callS2 (ν := k_Mo_name) ⟨w_792, w_35, w_794, by decide, by decide, by decide +kernel⟩ w_793 (c_Mo_name Γ (w1) (w2)  ) d_Mo_has_3 ⟨⟨by decide, by decide⟩, ⟨by decide, by decide⟩⟩ (Nat.le_of_ble_eq_true rfl) (fun v1 M1 n1 hQ1 hn1 hd1 => ?_)
  obtain ⟨rfl, hf1, kn1x0, fn1x1, rfl, hb1_kn1x0_0, hw1_0⟩ := hQ1
  refine g_callS2 (ν := k_Mo_word0) ⟨w_833, w_35, w_835, by decide, by decide, by decide +kernel⟩ w_834 (c_Mo_word0 Γ (n)  ) d_Mo_has_6 ⟨⟨by decide, by decide⟩, ⟨by decide, by decide⟩⟩ (Nat.le_of_ble_eq_true rfl) (fun v2 M2 n2 hQ2 hn2 hd2 => ?_)
  obtain ⟨rfl, hf2, rfl⟩ := hQ2
  refine g_bipush d_Mo_has_9 (by decide) ?_
  refine g_icmp_eq (tgt := 18) d_Mo_has_11 (by decide) (fun _ => ?_) (fun h3 => False.elim (by omega))
  refine g_iconst d_Mo_has_18 ?_
  refine g_zret (ty := .boolean) (by first | rfl | decide) d_Mo_has_19 rfl ?_ (by decide) (by decide)
  exact ⟨rfl, fun q e0 => ((hf2 q ).trans ((hf1 q (by omega)).trans rfl)), rfl⟩
def k_Mo_numberIn0 : MS := ("VaryStoreModel", b_Mo_numberIn, 3, (some .int), "numberIn", { frames := 1, cells := 0, slots := 0, locals := 26 }, [])
set_option maxRecDepth 100000 in
set_option maxHeartbeats 4000000 in
theorem c_Mo_numberIn0 (Γ : GE) (t : Nat) (m : Nat) (x0 : Nat) (x1 : Nat) (x2 : Nat) (x3 : Nat) {M : HM} {n : Nat}  (p0 : M (t) = some (.inr (7, [.ref (x0), .int (iI (0)), .ref (x1), .ref (x2), .ref (x3)]))) : CT Γ k_Mo_numberIn0 y_Mo_numberIn [.ref (t), .ref (m)] M (n) (fun v M' n' => n = n' ∧ (∀ q, M' q = M q) ∧ v = some (.int (iI ((-1))))) := by
  refine CT.of (by decide) rfl rfl 1 rfl (Nat.le_of_ble_eq_true rfl) rfl ?_
  refine g_aload_n d_Mo_numberIn_0 rfl ?_
  refine g_aload_n d_Mo_numberIn_1 rfl ?_
  refine g_callS2 (ν := k_Mo_valueOf0) ⟨w_795, w_35, w_797, by decide, by decide, by decide +kernel⟩ w_796 (c_Mo_valueOf0 Γ (t) (m) (x0) (x1) (x2) (x3)  p0) d_Mo_numberIn_2 ⟨⟨by decide, by decide⟩, ⟨by decide, by decide⟩⟩ (Nat.le_of_ble_eq_true rfl) (fun v1 M1 n1 hQ1 hn1 hd1 => ?_)
  obtain ⟨rfl, hf1, rfl⟩ := hQ1
  refine g_astore_nN d_Mo_numberIn_5 (by decide) rfl ?_
  refine g_aload_nN d_Mo_numberIn_6 rfl ?_
  refine g_ifnonnullN d_Mo_numberIn_7 ?_
  refine g_iconst d_Mo_numberIn_10 ?_
  refine g_goto (tgt := 19) d_Mo_numberIn_11 (by decide) ?_
  refine g_iret d_Mo_numberIn_19 rfl ?_ (by decide) (by decide)
  exact ⟨rfl, fun q  => ((hf1 q ).trans rfl), rfl⟩
def k_Mo_etagOf0 : MS := ("VaryStoreModel", b_Mo_etagOf, 2, (some (.array .int)), "etagOf", { frames := 1, cells := 1, slots := 16, locals := 27 }, [])
set_option maxRecDepth 100000 in
set_option maxHeartbeats 4000000 in
theorem c_Mo_etagOf0 (Γ : GE) (t : Nat) (x0 : Nat) (x1 : Nat) (x2 : Nat) (x3 : Nat) {M : HM} {n : Nat} (htn : t < n) (p0 : M (t) = some (.inr (7, [.ref (x0), .int (iI (0)), .ref (x1), .ref (x2), .ref (x3)]))) : CT Γ k_Mo_etagOf0 y_Mo_etagOf [.ref (t)] M (n) (fun v M' n' => n + 1 = n' ∧ (∀ q, q ≠ n → M' q = M q) ∧ v = some (.null)) := by
  refine CT.of (by decide) rfl rfl 1 rfl (Nat.le_of_ble_eq_true rfl) rfl ?_
  refine g_aload_n d_Mo_etagOf_0 rfl ?_
  refine g_ldcL w_913 d_Mo_etagOf_1 ?_
  refine g_lconst d_Mo_etagOf_4 rfl ?_
  refine g_callS2 (ν := k_Mo_name) ⟨w_792, w_35, w_794, by decide, by decide, by decide +kernel⟩ w_793 (c_Mo_name Γ (1702125927) (Int64.ofNat 0)  ) d_Mo_etagOf_5 ⟨⟨by decide, by decide⟩, ⟨by decide, by decide⟩⟩ (Nat.le_of_ble_eq_true rfl) (fun v1 M1 n1 hQ1 hn1 hd1 => ?_)
  obtain ⟨rfl, hf1, kn1x0, fn1x1, rfl, hb1_kn1x0_0, hw1_0⟩ := hQ1
  refine g_callS2 (ν := k_Mo_valueOf0) ⟨w_795, w_35, w_797, by decide, by decide, by decide +kernel⟩ w_796 (c_Mo_valueOf0 Γ (t) (n) (x0) (x1) (x2) (x3)  ((hf1 (t) (by omega)).trans p0)) d_Mo_etagOf_8 ⟨⟨by decide, by decide⟩, ⟨by decide, by decide⟩⟩ (Nat.le_of_ble_eq_true rfl) (fun v2 M2 n2 hQ2 hn2 hd2 => ?_)
  obtain ⟨rfl, hf2, rfl⟩ := hQ2
  refine g_astore_nN d_Mo_etagOf_11 (by decide) rfl ?_
  refine g_aload_nN d_Mo_etagOf_12 rfl ?_
  refine g_ifnullN (tgt := 21) d_Mo_etagOf_13 (by decide) ?_
  refine g_null d_Mo_etagOf_21 ?_
  refine g_goto (tgt := 26) d_Mo_etagOf_22 (by decide) ?_
  refine g_aret (rt := (.array .int)) (by first | exact Or.inl ⟨_, rfl⟩ | exact Or.inr ⟨_, rfl⟩) (by first | exact Or.inl rfl | exact Or.inr ⟨_, rfl⟩) d_Mo_etagOf_26 rfl ?_ (by decide) (by decide)
  exact ⟨rfl, fun q e0 => ((hf2 q ).trans ((hf1 q (by omega)).trans rfl)), rfl⟩
def k_Mo_theOne0 : MS := ("VaryStoreModel", b_Mo_theOne, 7, (some .int), "theOne", { frames := 0, cells := 0, slots := 0, locals := 0 }, [])
set_option maxRecDepth 100000 in
set_option maxHeartbeats 4000000 in
theorem c_Mo_theOne0 (Γ : GE) (r : Nat) (fa : Int) (tm : Int) (th : Int) (ev : Int64) (rq : Nat) (path : Int) {M : HM} {n : Nat}  (p0 : M (r) = some (.inr (6, [.ref (r + 1), .int (iI (0)), .int (iI (fa)), .int (iI (tm)), .int (iI (th)), .long (ev), .ref (rq), .ref (r + 7), .int (iI (0))]))) : CT Γ k_Mo_theOne0 y_Mo_theOne [.ref (r), .int (iI (path))] M (n) (fun v M' n' => n = n' ∧ (∀ q, M' q = M q) ∧ v = some (.int (iI ((-1))))) := by
  refine CT.of (by decide) rfl rfl 5 rfl (Nat.le_of_ble_eq_true rfl) rfl ?_
  refine g_iconst d_Mo_theOne_0 ?_
  refine g_istore_n d_Mo_theOne_1 (by decide) rfl ?_
  refine g_iconst d_Mo_theOne_2 ?_
  refine g_istore_n d_Mo_theOne_3 (by decide) rfl ?_
  refine g_iload_n d_Mo_theOne_4 rfl ?_
  refine g_aload_n d_Mo_theOne_5 rfl ?_
  refine g_get fa_Mo_181 d_Mo_theOne_6 p0 rfl ?_
  refine g_icmp_ge (tgt := 102) d_Mo_theOne_9 (by decide) (fun _ => ?_) (fun h1 => False.elim (by omega))
  refine g_iload_n d_Mo_theOne_102 rfl ?_
  refine g_iret d_Mo_theOne_103 rfl ?_ (by decide) (by decide)
  exact ⟨rfl, fun q  => rfl, rfl⟩
def k_Mo_placeOf0 : MS := ("VaryStoreModel", b_Mo_placeOf, 6, (some .int), "placeOf", { frames := 0, cells := 0, slots := 0, locals := 0 }, [])
set_option maxRecDepth 100000 in
set_option maxHeartbeats 4000000 in
theorem c_Mo_placeOf0 (Γ : GE) (r : Nat) (fa : Int) (tm : Int) (th : Int) (ev : Int64) (rq : Nat) (g : Nat) {M : HM} {n : Nat}  (p0 : M (r) = some (.inr (6, [.ref (r + 1), .int (iI (0)), .int (iI (fa)), .int (iI (tm)), .int (iI (th)), .long (ev), .ref (rq), .ref (r + 7), .int (iI (0))]))) : CT Γ k_Mo_placeOf0 y_Mo_placeOf [.ref (r), .ref (g)] M (n) (fun v M' n' => n = n' ∧ (∀ q, M' q = M q) ∧ v = some (.int (iI ((-1))))) := by
  refine CT.of (by decide) rfl rfl 4 rfl (Nat.le_of_ble_eq_true rfl) rfl ?_
  refine g_iconst d_Mo_placeOf_0 ?_
  refine g_istore_n d_Mo_placeOf_1 (by decide) rfl ?_
  refine g_iload_n d_Mo_placeOf_2 rfl ?_
  refine g_aload_n d_Mo_placeOf_3 rfl ?_
  refine g_get fa_Mo_181 d_Mo_placeOf_4 p0 rfl ?_
  refine g_icmp_ge (tgt := 105) d_Mo_placeOf_7 (by decide) (fun _ => ?_) (fun h1 => False.elim (by omega))
  refine g_iconst d_Mo_placeOf_105 ?_
  refine g_iret d_Mo_placeOf_106 rfl ?_ (by decide) (by decide)
  exact ⟨rfl, fun q  => rfl, rfl⟩
def k_Mo_hasStar0 : MS := ("VaryStoreModel", b_Mo_hasStar, 2, (some .boolean), "hasStar", { frames := 0, cells := 0, slots := 0, locals := 0 }, [])
set_option maxRecDepth 100000 in
set_option maxHeartbeats 4000000 in
theorem c_Mo_hasStar0 (Γ : GE) (a : Nat) {M : HM} {n : Nat}  (p0 : M (a) = some (.inl (Γ.2.2.1 5, 0, .inr (.inr (.inr (.inr (fun _ => none))))))) : CT Γ k_Mo_hasStar0 y_Mo_hasStar [.ref (a)] M (n) (fun v M' n' => n = n' ∧ (∀ q, M' q = M q) ∧ v = some (.int (iI (0)))) := by
  refine CT.of (by decide) rfl rfl 1 rfl (Nat.le_of_ble_eq_true rfl) rfl ?_
  refine g_iconst d_Mo_hasStar_0 ?_
  refine g_istore_n d_Mo_hasStar_1 (by decide) rfl ?_
  refine g_iload_n d_Mo_hasStar_2 rfl ?_
  refine g_aload_n d_Mo_hasStar_3 rfl ?_
  refine g_alenN 5 rfl d_Mo_hasStar_4 p0 ?_
  refine g_icmp_ge (tgt := 34) d_Mo_hasStar_5 (by decide) (fun _ => ?_) (fun h1 => False.elim (by omega))
  refine g_iconst d_Mo_hasStar_34 ?_
  refine g_zret (ty := .boolean) (by first | rfl | decide) d_Mo_hasStar_35 rfl ?_ (by decide) (by decide)
  exact ⟨rfl, fun q  => rfl, rfl⟩
def k_Mo_isPath1 : MS := ("VaryStoreModel", b_Mo_isPath, 1, (some .boolean), "isPath", { frames := 0, cells := 0, slots := 0, locals := 0 }, [])
set_option maxRecDepth 100000 in
set_option maxHeartbeats 4000000 in
theorem c_Mo_isPath1 (Γ : GE) (path : Int) {M : HM} {n : Nat} (pa : 0 ≤ path) (pb : path < 16)  : CT Γ k_Mo_isPath1 y_Mo_isPath [.int (iI (path))] M (n) (fun v M' n' => n = n' ∧ (∀ q, M' q = M q) ∧ v = some (.int (iI (1)))) := by
  refine CT.of (by decide) rfl rfl 0 rfl (Nat.le_of_ble_eq_true rfl) rfl ?_
  refine g_iload_n d_Mo_isPath_0 rfl ?_
  refine g_if_lt (tgt := 14) d_Mo_isPath_1 (by decide) (fun h1 => False.elim (by omega)) (fun h1 => ?_)
  refine g_iload_n d_Mo_isPath_4 rfl ?_
  refine g_bipush d_Mo_isPath_5 (by decide) ?_
  refine g_icmp_ge (tgt := 14) d_Mo_isPath_7 (by decide) (fun h2 => False.elim (by omega)) (fun h2 => ?_)
  refine g_iconst d_Mo_isPath_10 ?_
  refine g_goto (tgt := 15) d_Mo_isPath_11 (by decide) ?_
  refine g_zret (ty := .boolean) (by first | rfl | decide) d_Mo_isPath_15 rfl ?_ (by decide) (by decide)
  exact ⟨rfl, fun q  => rfl, rfl⟩
def k_Mo_isPath0 : MS := ("VaryStoreModel", b_Mo_isPath, 1, (some .boolean), "isPath", { frames := 0, cells := 0, slots := 0, locals := 0 }, [])
set_option maxRecDepth 100000 in
set_option maxHeartbeats 4000000 in
theorem c_Mo_isPath0 (Γ : GE) (path : Int) {M : HM} {n : Nat} (pa : -2147483648 ≤ path) (pb : path < 2147483648) (pc9 : ¬ (0 ≤ path ∧ path < 16))  : CT Γ k_Mo_isPath0 y_Mo_isPath [.int (iI (path))] M (n) (fun v M' n' => n = n' ∧ (∀ q, M' q = M q) ∧ v = some (.int (iI (0)))) := by
  refine CT.of (by decide) rfl rfl 0 rfl (Nat.le_of_ble_eq_true rfl) rfl ?_
  refine g_iload_n d_Mo_isPath_0 rfl ?_
  refine g_if_lt (tgt := 14) d_Mo_isPath_1 (by decide) (fun h1 => ?_) (fun h1 => ?_)
  · skip
    refine g_iconst d_Mo_isPath_14 ?_
    refine g_zret (ty := .boolean) (by first | rfl | decide) d_Mo_isPath_15 rfl ?_ (by decide) (by decide)
    exact ⟨rfl, fun q  => rfl, rfl⟩
  · skip
    refine g_iload_n d_Mo_isPath_4 rfl ?_
    refine g_bipush d_Mo_isPath_5 (by decide) ?_
    refine g_icmp_ge (tgt := 14) d_Mo_isPath_7 (by decide) (fun h2 => ?_) (fun h2 => False.elim (by omega))
    refine g_iconst d_Mo_isPath_14 ?_
    refine g_zret (ty := .boolean) (by first | rfl | decide) d_Mo_isPath_15 rfl ?_ (by decide) (by decide)
    exact ⟨rfl, fun q  => rfl, rfl⟩
end
section
theorem d_Mo_setWords_0 : decode b_Mo_setWords 0 = .ok (.aload_n 1, 1) := by decide +kernel
theorem d_Mo_setWords_1 : decode b_Mo_setWords 1 = .ok (.aload_n 2, 1) := by decide +kernel
theorem d_Mo_setWords_2 : decode b_Mo_setWords 2 = .ok (.ldc2_w 117, 3) := by decide +kernel
theorem d_Mo_setWords_5 : decode b_Mo_setWords 5 = .ok (.lconst 0, 1) := by decide +kernel
theorem d_Mo_setWords_6 : decode b_Mo_setWords 6 = .ok (.invokestatic 105, 3) := by decide +kernel
theorem d_Mo_setWords_9 : decode b_Mo_setWords 9 = .ok (.invokestatic 113, 3) := by decide +kernel
theorem d_Mo_setWords_12 : decode b_Mo_setWords 12 = .ok (.putfield 119, 3) := by decide +kernel
theorem d_Mo_setWords_15 : decode b_Mo_setWords 15 = .ok (.aload_n 1, 1) := by decide +kernel
theorem d_Mo_setWords_16 : decode b_Mo_setWords 16 = .ok (.aload_n 2, 1) := by decide +kernel
theorem d_Mo_setWords_17 : decode b_Mo_setWords 17 = .ok (.ldc2_w 122, 3) := by decide +kernel
theorem d_Mo_setWords_20 : decode b_Mo_setWords 20 = .ok (.lconst 0, 1) := by decide +kernel
theorem d_Mo_setWords_21 : decode b_Mo_setWords 21 = .ok (.invokestatic 105, 3) := by decide +kernel
theorem d_Mo_setWords_24 : decode b_Mo_setWords 24 = .ok (.invokestatic 113, 3) := by decide +kernel
theorem d_Mo_setWords_27 : decode b_Mo_setWords 27 = .ok (.putfield 124, 3) := by decide +kernel
theorem d_Mo_setWords_30 : decode b_Mo_setWords 30 = .ok (.aload_n 1, 1) := by decide +kernel
theorem d_Mo_setWords_31 : decode b_Mo_setWords 31 = .ok (.aload_n 2, 1) := by decide +kernel
theorem d_Mo_setWords_32 : decode b_Mo_setWords 32 = .ok (.ldc2_w 127, 3) := by decide +kernel
theorem d_Mo_setWords_35 : decode b_Mo_setWords 35 = .ok (.lconst 0, 1) := by decide +kernel
theorem d_Mo_setWords_36 : decode b_Mo_setWords 36 = .ok (.invokestatic 129, 3) := by decide +kernel
theorem d_Mo_setWords_39 : decode b_Mo_setWords 39 = .ok (.putfield 133, 3) := by decide +kernel
theorem d_Mo_setWords_42 : decode b_Mo_setWords 42 = .ok (.aload_n 1, 1) := by decide +kernel
theorem d_Mo_setWords_43 : decode b_Mo_setWords 43 = .ok (.aload_n 1, 1) := by decide +kernel
theorem d_Mo_setWords_44 : decode b_Mo_setWords 44 = .ok (.getfield 133, 3) := by decide +kernel
theorem d_Mo_setWords_47 : decode b_Mo_setWords 47 = .ok (.ifCond .ne 38, 3) := by decide +kernel
theorem d_Mo_setWords_50 : decode b_Mo_setWords 50 = .ok (.aload_n 1, 1) := by decide +kernel
theorem d_Mo_setWords_51 : decode b_Mo_setWords 51 = .ok (.getfield 119, 3) := by decide +kernel
theorem d_Mo_setWords_54 : decode b_Mo_setWords 54 = .ok (.bipush (-2), 2) := by decide +kernel
theorem d_Mo_setWords_56 : decode b_Mo_setWords 56 = .ok (.if_icmp .ne 29, 3) := by decide +kernel
theorem d_Mo_setWords_59 : decode b_Mo_setWords 59 = .ok (.aload_n 2, 1) := by decide +kernel
theorem d_Mo_setWords_60 : decode b_Mo_setWords 60 = .ok (.ldc2_w 137, 3) := by decide +kernel
theorem d_Mo_setWords_63 : decode b_Mo_setWords 63 = .ok (.ldc2_w 139, 3) := by decide +kernel
theorem d_Mo_setWords_66 : decode b_Mo_setWords 66 = .ok (.invokestatic 129, 3) := by decide +kernel
theorem d_Mo_setWords_69 : decode b_Mo_setWords 69 = .ok (.ifCond .ne 16, 3) := by decide +kernel
theorem d_Mo_setWords_72 : decode b_Mo_setWords 72 = .ok (.aload_n 2, 1) := by decide +kernel
theorem d_Mo_setWords_73 : decode b_Mo_setWords 73 = .ok (.ldc2_w 141, 3) := by decide +kernel
theorem d_Mo_setWords_76 : decode b_Mo_setWords 76 = .ok (.ldc2_w 143, 3) := by decide +kernel
theorem d_Mo_setWords_79 : decode b_Mo_setWords 79 = .ok (.invokestatic 129, 3) := by decide +kernel
theorem d_Mo_setWords_82 : decode b_Mo_setWords 82 = .ok (.ifCond .eq 7, 3) := by decide +kernel
theorem d_Mo_setWords_89 : decode b_Mo_setWords 89 = .ok (.iconst 0, 1) := by decide +kernel
theorem d_Mo_setWords_90 : decode b_Mo_setWords 90 = .ok (.putfield 145, 3) := by decide +kernel
theorem d_Mo_setWords_93 : decode b_Mo_setWords 93 = .ok (.return_, 1) := by decide +kernel
theorem d_Mo_setTimes_0 : decode b_Mo_setTimes 0 = .ok (.aload_n 2, 1) := by decide +kernel
theorem d_Mo_setTimes_1 : decode b_Mo_setTimes 1 = .ok (.ldc2_w 148, 3) := by decide +kernel
theorem d_Mo_setTimes_4 : decode b_Mo_setTimes 4 = .ok (.lconst 0, 1) := by decide +kernel
theorem d_Mo_setTimes_5 : decode b_Mo_setTimes 5 = .ok (.invokestatic 105, 3) := by decide +kernel
theorem d_Mo_setTimes_8 : decode b_Mo_setTimes 8 = .ok (.invokestatic 150, 3) := by decide +kernel
theorem d_Mo_setTimes_11 : decode b_Mo_setTimes 11 = .ok (.istore_n 3, 1) := by decide +kernel
theorem d_Mo_setTimes_12 : decode b_Mo_setTimes 12 = .ok (.aload_n 2, 1) := by decide +kernel
theorem d_Mo_setTimes_13 : decode b_Mo_setTimes 13 = .ok (.ldc2_w 154, 3) := by decide +kernel
theorem d_Mo_setTimes_16 : decode b_Mo_setTimes 16 = .ok (.lconst 0, 1) := by decide +kernel
theorem d_Mo_setTimes_17 : decode b_Mo_setTimes 17 = .ok (.invokestatic 105, 3) := by decide +kernel
theorem d_Mo_setTimes_20 : decode b_Mo_setTimes 20 = .ok (.invokestatic 150, 3) := by decide +kernel
theorem d_Mo_setTimes_23 : decode b_Mo_setTimes 23 = .ok (.istore 4, 2) := by decide +kernel
theorem d_Mo_setTimes_25 : decode b_Mo_setTimes 25 = .ok (.aload_n 2, 1) := by decide +kernel
theorem d_Mo_setTimes_26 : decode b_Mo_setTimes 26 = .ok (.ldc2_w 156, 3) := by decide +kernel
theorem d_Mo_setTimes_29 : decode b_Mo_setTimes 29 = .ok (.lconst 0, 1) := by decide +kernel
theorem d_Mo_setTimes_30 : decode b_Mo_setTimes 30 = .ok (.invokestatic 105, 3) := by decide +kernel
theorem d_Mo_setTimes_33 : decode b_Mo_setTimes 33 = .ok (.invokestatic 150, 3) := by decide +kernel
theorem d_Mo_setTimes_36 : decode b_Mo_setTimes 36 = .ok (.istore 5, 2) := by decide +kernel
theorem d_Mo_setTimes_38 : decode b_Mo_setTimes 38 = .ok (.iload_n 3, 1) := by decide +kernel
theorem d_Mo_setTimes_39 : decode b_Mo_setTimes 39 = .ok (.ifCond .lt 21, 3) := by decide +kernel
theorem d_Mo_setTimes_60 : decode b_Mo_setTimes 60 = .ok (.iconst 0, 1) := by decide +kernel
theorem d_Mo_setTimes_61 : decode b_Mo_setTimes 61 = .ok (.istore 6, 2) := by decide +kernel
theorem d_Mo_setTimes_63 : decode b_Mo_setTimes 63 = .ok (.aload_n 1, 1) := by decide +kernel
theorem d_Mo_setTimes_64 : decode b_Mo_setTimes 64 = .ok (.aload_n 1, 1) := by decide +kernel
theorem d_Mo_setTimes_65 : decode b_Mo_setTimes 65 = .ok (.getfield 119, 3) := by decide +kernel
theorem d_Mo_setTimes_68 : decode b_Mo_setTimes 68 = .ok (.ifCond .lt 10, 3) := by decide +kernel
theorem d_Mo_setTimes_78 : decode b_Mo_setTimes 78 = .ok (.aload_n 1, 1) := by decide +kernel
theorem d_Mo_setTimes_79 : decode b_Mo_setTimes 79 = .ok (.getfield 124, 3) := by decide +kernel
theorem d_Mo_setTimes_82 : decode b_Mo_setTimes 82 = .ok (.ifCond .lt 10, 3) := by decide +kernel
theorem d_Mo_setTimes_92 : decode b_Mo_setTimes 92 = .ok (.iload 6, 2) := by decide +kernel
theorem d_Mo_setTimes_94 : decode b_Mo_setTimes 94 = .ok (.putfield 158, 3) := by decide +kernel
theorem d_Mo_setTimes_97 : decode b_Mo_setTimes 97 = .ok (.aload_n 1, 1) := by decide +kernel
theorem d_Mo_setTimes_98 : decode b_Mo_setTimes 98 = .ok (.iload 5, 2) := by decide +kernel
theorem d_Mo_setTimes_100 : decode b_Mo_setTimes 100 = .ok (.ifCond .lt 8, 3) := by decide +kernel
theorem d_Mo_setTimes_108 : decode b_Mo_setTimes 108 = .ok (.iconst 0, 1) := by decide +kernel
theorem d_Mo_setTimes_109 : decode b_Mo_setTimes 109 = .ok (.putfield 161, 3) := by decide +kernel
theorem d_Mo_setTimes_112 : decode b_Mo_setTimes 112 = .ok (.aload_n 1, 1) := by decide +kernel
theorem d_Mo_setTimes_113 : decode b_Mo_setTimes 113 = .ok (.aload_n 0, 1) := by decide +kernel
theorem d_Mo_setTimes_114 : decode b_Mo_setTimes 114 = .ok (.getfield 164, 3) := by decide +kernel
theorem d_Mo_setTimes_117 : decode b_Mo_setTimes 117 = .ok (.putfield 167, 3) := by decide +kernel
theorem d_Mo_setTimes_120 : decode b_Mo_setTimes 120 = .ok (.return_, 1) := by decide +kernel
theorem d_Mo_ask_0 : decode b_Mo_ask 0 = .ok (.aload_n 0, 1) := by decide +kernel
theorem d_Mo_ask_1 : decode b_Mo_ask 1 = .ok (.invokevirtual 213, 3) := by decide +kernel
theorem d_Mo_ask_4 : decode b_Mo_ask 4 = .ok (.astore_n 2, 1) := by decide +kernel
theorem d_Mo_ask_5 : decode b_Mo_ask 5 = .ok (.aload_n 0, 1) := by decide +kernel
theorem d_Mo_ask_6 : decode b_Mo_ask 6 = .ok (.aload_n 2, 1) := by decide +kernel
theorem d_Mo_ask_7 : decode b_Mo_ask 7 = .ok (.ifnull 10, 3) := by decide +kernel
theorem d_Mo_ask_10 : decode b_Mo_ask 10 = .ok (.iload_n 1, 1) := by decide +kernel
theorem d_Mo_ask_11 : decode b_Mo_ask 11 = .ok (.invokestatic 217, 3) := by decide +kernel
theorem d_Mo_ask_14 : decode b_Mo_ask 14 = .ok (.ifCond .ne 7, 3) := by decide +kernel
theorem d_Mo_ask_17 : decode b_Mo_ask 17 = .ok (.iconst 1, 1) := by decide +kernel
theorem d_Mo_ask_18 : decode b_Mo_ask 18 = .ok (.goto 4, 3) := by decide +kernel
theorem d_Mo_ask_22 : decode b_Mo_ask 22 = .ok (.putfield 32, 3) := by decide +kernel
theorem d_Mo_ask_25 : decode b_Mo_ask 25 = .ok (.aload_n 0, 1) := by decide +kernel
theorem d_Mo_ask_26 : decode b_Mo_ask 26 = .ok (.getfield 32, 3) := by decide +kernel
theorem d_Mo_ask_29 : decode b_Mo_ask 29 = .ok (.ifCond .eq 5, 3) := by decide +kernel
theorem d_Mo_ask_32 : decode b_Mo_ask 32 = .ok (.iconst 0, 1) := by decide +kernel
theorem d_Mo_ask_33 : decode b_Mo_ask 33 = .ok (.ireturn, 1) := by decide +kernel
theorem d_Mo_ask_21 : decode b_Mo_ask 21 = .ok (.iconst 0, 1) := by decide +kernel
theorem d_Mo_ask_34 : decode b_Mo_ask 34 = .ok (.aload_n 0, 1) := by decide +kernel
theorem d_Mo_ask_35 : decode b_Mo_ask 35 = .ok (.aload_n 2, 1) := by decide +kernel
theorem d_Mo_ask_36 : decode b_Mo_ask 36 = .ok (.putfield 22, 3) := by decide +kernel
theorem d_Mo_ask_39 : decode b_Mo_ask 39 = .ok (.aload_n 2, 1) := by decide +kernel
theorem d_Mo_ask_40 : decode b_Mo_ask 40 = .ok (.invokestatic 220, 3) := by decide +kernel
theorem d_Mo_ask_43 : decode b_Mo_ask 43 = .ok (.invokestatic 91, 3) := by decide +kernel
theorem d_Mo_ask_46 : decode b_Mo_ask 46 = .ok (.astore_n 3, 1) := by decide +kernel
theorem d_Mo_ask_47 : decode b_Mo_ask 47 = .ok (.aload_n 0, 1) := by decide +kernel
theorem d_Mo_ask_48 : decode b_Mo_ask 48 = .ok (.iload_n 1, 1) := by decide +kernel
theorem d_Mo_ask_49 : decode b_Mo_ask 49 = .ok (.invokevirtual 224, 3) := by decide +kernel
theorem d_Mo_ask_52 : decode b_Mo_ask 52 = .ok (.istore 4, 2) := by decide +kernel
theorem d_Mo_ask_54 : decode b_Mo_ask 54 = .ok (.iload 4, 2) := by decide +kernel
theorem d_Mo_ask_56 : decode b_Mo_ask 56 = .ok (.iconst (-1), 1) := by decide +kernel
theorem d_Mo_ask_57 : decode b_Mo_ask 57 = .ok (.if_icmp .ne 7, 3) := by decide +kernel
theorem d_Mo_ask_60 : decode b_Mo_ask 60 = .ok (.iconst 0, 1) := by decide +kernel
theorem d_Mo_ask_61 : decode b_Mo_ask 61 = .ok (.goto 15, 3) := by decide +kernel
theorem d_Mo_ask_76 : decode b_Mo_ask 76 = .ok (.istore 5, 2) := by decide +kernel
theorem d_Mo_ask_78 : decode b_Mo_ask 78 = .ok (.iload 5, 2) := by decide +kernel
theorem d_Mo_ask_80 : decode b_Mo_ask 80 = .ok (.iconst 1, 1) := by decide +kernel
theorem d_Mo_ask_81 : decode b_Mo_ask 81 = .ok (.if_icmp .eq 9, 3) := by decide +kernel
theorem d_Mo_ask_84 : decode b_Mo_ask 84 = .ok (.iload 5, 2) := by decide +kernel
theorem d_Mo_ask_86 : decode b_Mo_ask 86 = .ok (.iconst 2, 1) := by decide +kernel
theorem d_Mo_ask_87 : decode b_Mo_ask 87 = .ok (.if_icmp .ne 17, 3) := by decide +kernel
theorem d_Mo_ask_104 : decode b_Mo_ask 104 = .ok (.aload_n 3, 1) := by decide +kernel
theorem d_Mo_ask_105 : decode b_Mo_ask 105 = .ok (.ldc2_w 231, 3) := by decide +kernel
theorem d_Mo_ask_108 : decode b_Mo_ask 108 = .ok (.ldc2_w 233, 3) := by decide +kernel
theorem d_Mo_ask_111 : decode b_Mo_ask 111 = .ok (.invokestatic 129, 3) := by decide +kernel
theorem d_Mo_ask_114 : decode b_Mo_ask 114 = .ok (.ifCond .eq 5, 3) := by decide +kernel
theorem d_Mo_ask_119 : decode b_Mo_ask 119 = .ok (.iload 5, 2) := by decide +kernel
theorem d_Mo_ask_121 : decode b_Mo_ask 121 = .ok (.ireturn, 1) := by decide +kernel
theorem d_Mo_again_0 : decode b_Mo_again 0 = .ok (.aload_n 0, 1) := by decide +kernel
theorem d_Mo_again_1 : decode b_Mo_again 1 = .ok (.invokevirtual 213, 3) := by decide +kernel
theorem d_Mo_again_4 : decode b_Mo_again 4 = .ok (.astore_n 2, 1) := by decide +kernel
theorem d_Mo_again_5 : decode b_Mo_again 5 = .ok (.aload_n 0, 1) := by decide +kernel
theorem d_Mo_again_6 : decode b_Mo_again 6 = .ok (.aload_n 2, 1) := by decide +kernel
theorem d_Mo_again_7 : decode b_Mo_again 7 = .ok (.ifnull 10, 3) := by decide +kernel
theorem d_Mo_again_10 : decode b_Mo_again 10 = .ok (.iload_n 1, 1) := by decide +kernel
theorem d_Mo_again_11 : decode b_Mo_again 11 = .ok (.invokestatic 217, 3) := by decide +kernel
theorem d_Mo_again_14 : decode b_Mo_again 14 = .ok (.ifCond .ne 7, 3) := by decide +kernel
theorem d_Mo_again_17 : decode b_Mo_again 17 = .ok (.iconst 1, 1) := by decide +kernel
theorem d_Mo_again_18 : decode b_Mo_again 18 = .ok (.goto 4, 3) := by decide +kernel
theorem d_Mo_again_22 : decode b_Mo_again 22 = .ok (.putfield 32, 3) := by decide +kernel
theorem d_Mo_again_25 : decode b_Mo_again 25 = .ok (.aload_n 0, 1) := by decide +kernel
theorem d_Mo_again_26 : decode b_Mo_again 26 = .ok (.getfield 32, 3) := by decide +kernel
theorem d_Mo_again_29 : decode b_Mo_again 29 = .ok (.ifCond .eq 5, 3) := by decide +kernel
theorem d_Mo_again_32 : decode b_Mo_again 32 = .ok (.iconst 0, 1) := by decide +kernel
theorem d_Mo_again_33 : decode b_Mo_again 33 = .ok (.ireturn, 1) := by decide +kernel
theorem d_Mo_again_21 : decode b_Mo_again 21 = .ok (.iconst 0, 1) := by decide +kernel
theorem d_Mo_again_34 : decode b_Mo_again 34 = .ok (.aload_n 0, 1) := by decide +kernel
theorem d_Mo_again_35 : decode b_Mo_again 35 = .ok (.iload_n 1, 1) := by decide +kernel
theorem d_Mo_again_36 : decode b_Mo_again 36 = .ok (.invokevirtual 224, 3) := by decide +kernel
theorem d_Mo_again_39 : decode b_Mo_again 39 = .ok (.istore_n 3, 1) := by decide +kernel
theorem d_Mo_again_40 : decode b_Mo_again 40 = .ok (.iload_n 3, 1) := by decide +kernel
theorem d_Mo_again_41 : decode b_Mo_again 41 = .ok (.iconst (-1), 1) := by decide +kernel
theorem d_Mo_again_42 : decode b_Mo_again 42 = .ok (.if_icmp .ne 5, 3) := by decide +kernel
theorem d_Mo_again_45 : decode b_Mo_again 45 = .ok (.iconst 0, 1) := by decide +kernel
theorem d_Mo_again_46 : decode b_Mo_again 46 = .ok (.ireturn, 1) := by decide +kernel
theorem d_Mo_keep_0 : decode b_Mo_keep 0 = .ok (.aload_n 0, 1) := by decide +kernel
theorem d_Mo_keep_1 : decode b_Mo_keep 1 = .ok (.invokevirtual 213, 3) := by decide +kernel
theorem d_Mo_keep_4 : decode b_Mo_keep 4 = .ok (.astore_n 2, 1) := by decide +kernel
theorem d_Mo_keep_5 : decode b_Mo_keep 5 = .ok (.aload_n 0, 1) := by decide +kernel
theorem d_Mo_keep_6 : decode b_Mo_keep 6 = .ok (.aload_n 2, 1) := by decide +kernel
theorem d_Mo_keep_7 : decode b_Mo_keep 7 = .ok (.ifnull 10, 3) := by decide +kernel
theorem d_Mo_keep_10 : decode b_Mo_keep 10 = .ok (.iload_n 1, 1) := by decide +kernel
theorem d_Mo_keep_11 : decode b_Mo_keep 11 = .ok (.invokestatic 217, 3) := by decide +kernel
theorem d_Mo_keep_14 : decode b_Mo_keep 14 = .ok (.ifCond .ne 7, 3) := by decide +kernel
theorem d_Mo_keep_17 : decode b_Mo_keep 17 = .ok (.iconst 1, 1) := by decide +kernel
theorem d_Mo_keep_18 : decode b_Mo_keep 18 = .ok (.goto 4, 3) := by decide +kernel
theorem d_Mo_keep_22 : decode b_Mo_keep 22 = .ok (.putfield 32, 3) := by decide +kernel
theorem d_Mo_keep_25 : decode b_Mo_keep 25 = .ok (.aload_n 0, 1) := by decide +kernel
theorem d_Mo_keep_26 : decode b_Mo_keep 26 = .ok (.getfield 32, 3) := by decide +kernel
theorem d_Mo_keep_29 : decode b_Mo_keep 29 = .ok (.ifCond .eq 5, 3) := by decide +kernel
theorem d_Mo_keep_32 : decode b_Mo_keep 32 = .ok (.iconst 0, 1) := by decide +kernel
theorem d_Mo_keep_33 : decode b_Mo_keep 33 = .ok (.ireturn, 1) := by decide +kernel
theorem d_Mo_keep_21 : decode b_Mo_keep 21 = .ok (.iconst 0, 1) := by decide +kernel
theorem d_Mo_keep_34 : decode b_Mo_keep 34 = .ok (.new 26, 3) := by decide +kernel
theorem d_Mo_keep_37 : decode b_Mo_keep 37 = .ok (.dup, 1) := by decide +kernel
theorem d_Mo_keep_38 : decode b_Mo_keep 38 = .ok (.invokespecial 235, 3) := by decide +kernel
theorem d_Mo_keep_41 : decode b_Mo_keep 41 = .ok (.astore_n 3, 1) := by decide +kernel
theorem d_Mo_keep_42 : decode b_Mo_keep 42 = .ok (.aload_n 3, 1) := by decide +kernel
theorem d_Mo_keep_43 : decode b_Mo_keep 43 = .ok (.iload_n 1, 1) := by decide +kernel
theorem d_Mo_keep_44 : decode b_Mo_keep 44 = .ok (.putfield 188, 3) := by decide +kernel
theorem d_Mo_keep_47 : decode b_Mo_keep 47 = .ok (.aload_n 2, 1) := by decide +kernel
theorem d_Mo_keep_48 : decode b_Mo_keep 48 = .ok (.invokestatic 220, 3) := by decide +kernel
theorem d_Mo_keep_51 : decode b_Mo_keep 51 = .ok (.invokestatic 91, 3) := by decide +kernel
theorem d_Mo_keep_54 : decode b_Mo_keep 54 = .ok (.astore 4, 2) := by decide +kernel
theorem d_Mo_keep_56 : decode b_Mo_keep 56 = .ok (.aload_n 2, 1) := by decide +kernel
theorem d_Mo_keep_57 : decode b_Mo_keep 57 = .ok (.ldc2_w 236, 3) := by decide +kernel
theorem d_Mo_keep_60 : decode b_Mo_keep 60 = .ok (.lconst 0, 1) := by decide +kernel
theorem d_Mo_keep_61 : decode b_Mo_keep 61 = .ok (.invokestatic 105, 3) := by decide +kernel
theorem d_Mo_keep_64 : decode b_Mo_keep 64 = .ok (.invokestatic 91, 3) := by decide +kernel
theorem d_Mo_keep_67 : decode b_Mo_keep 67 = .ok (.astore 5, 2) := by decide +kernel
theorem d_Mo_keep_69 : decode b_Mo_keep 69 = .ok (.aload_n 3, 1) := by decide +kernel
theorem d_Mo_keep_70 : decode b_Mo_keep 70 = .ok (.aload 5, 2) := by decide +kernel
theorem d_Mo_keep_72 : decode b_Mo_keep 72 = .ok (.ifnonnull 10, 3) := by decide +kernel
theorem d_Mo_keep_75 : decode b_Mo_keep 75 = .ok (.iconst 0, 1) := by decide +kernel
theorem d_Mo_keep_76 : decode b_Mo_keep 76 = .ok (.anewarray 78, 3) := by decide +kernel
theorem d_Mo_keep_79 : decode b_Mo_keep 79 = .ok (.goto 11, 3) := by decide +kernel
theorem d_Mo_keep_90 : decode b_Mo_keep 90 = .ok (.putfield 191, 3) := by decide +kernel
theorem d_Mo_keep_93 : decode b_Mo_keep 93 = .ok (.aload_n 3, 1) := by decide +kernel
theorem d_Mo_keep_94 : decode b_Mo_keep 94 = .ok (.aload_n 3, 1) := by decide +kernel
theorem d_Mo_keep_95 : decode b_Mo_keep 95 = .ok (.getfield 191, 3) := by decide +kernel
theorem d_Mo_keep_98 : decode b_Mo_keep 98 = .ok (.arraylength, 1) := by decide +kernel
theorem d_Mo_keep_99 : decode b_Mo_keep 99 = .ok (.anewarray 78, 3) := by decide +kernel
theorem d_Mo_keep_102 : decode b_Mo_keep 102 = .ok (.putfield 195, 3) := by decide +kernel
theorem d_Mo_keep_105 : decode b_Mo_keep 105 = .ok (.iconst 0, 1) := by decide +kernel
theorem d_Mo_keep_106 : decode b_Mo_keep 106 = .ok (.istore 6, 2) := by decide +kernel
theorem d_Mo_keep_108 : decode b_Mo_keep 108 = .ok (.iload 6, 2) := by decide +kernel
theorem d_Mo_keep_110 : decode b_Mo_keep 110 = .ok (.aload_n 3, 1) := by decide +kernel
theorem d_Mo_keep_111 : decode b_Mo_keep 111 = .ok (.getfield 191, 3) := by decide +kernel
theorem d_Mo_keep_114 : decode b_Mo_keep 114 = .ok (.arraylength, 1) := by decide +kernel
theorem d_Mo_keep_115 : decode b_Mo_keep 115 = .ok (.if_icmp .ge 30, 3) := by decide +kernel
theorem d_Mo_keep_145 : decode b_Mo_keep 145 = .ok (.aload_n 3, 1) := by decide +kernel
theorem d_Mo_keep_146 : decode b_Mo_keep 146 = .ok (.aload_n 2, 1) := by decide +kernel
theorem d_Mo_keep_147 : decode b_Mo_keep 147 = .ok (.invokestatic 238, 3) := by decide +kernel
theorem d_Mo_keep_150 : decode b_Mo_keep 150 = .ok (.putfield 242, 3) := by decide +kernel
theorem d_Mo_keep_153 : decode b_Mo_keep 153 = .ok (.aload_n 0, 1) := by decide +kernel
theorem d_Mo_keep_154 : decode b_Mo_keep 154 = .ok (.aload_n 3, 1) := by decide +kernel
theorem d_Mo_keep_155 : decode b_Mo_keep 155 = .ok (.aload 4, 2) := by decide +kernel
theorem d_Mo_keep_157 : decode b_Mo_keep 157 = .ok (.invokevirtual 245, 3) := by decide +kernel
theorem d_Mo_keep_160 : decode b_Mo_keep 160 = .ok (.aload_n 0, 1) := by decide +kernel
theorem d_Mo_keep_161 : decode b_Mo_keep 161 = .ok (.aload_n 3, 1) := by decide +kernel
theorem d_Mo_keep_162 : decode b_Mo_keep 162 = .ok (.aload_n 2, 1) := by decide +kernel
theorem d_Mo_keep_163 : decode b_Mo_keep 163 = .ok (.invokevirtual 249, 3) := by decide +kernel
theorem d_Mo_keep_166 : decode b_Mo_keep 166 = .ok (.aload_n 0, 1) := by decide +kernel
theorem d_Mo_keep_167 : decode b_Mo_keep 167 = .ok (.aload_n 3, 1) := by decide +kernel
theorem d_Mo_keep_168 : decode b_Mo_keep 168 = .ok (.invokevirtual 253, 3) := by decide +kernel
theorem d_Mo_keep_171 : decode b_Mo_keep 171 = .ok (.istore 6, 2) := by decide +kernel
theorem d_Mo_keep_173 : decode b_Mo_keep 173 = .ok (.iload 6, 2) := by decide +kernel
theorem d_Mo_keep_175 : decode b_Mo_keep 175 = .ok (.iconst (-1), 1) := by decide +kernel
theorem d_Mo_keep_176 : decode b_Mo_keep 176 = .ok (.if_icmp .eq 9, 3) := by decide +kernel
theorem d_Mo_keep_185 : decode b_Mo_keep 185 = .ok (.aload 4, 2) := by decide +kernel
theorem d_Mo_keep_187 : decode b_Mo_keep 187 = .ok (.ldc2_w 259, 3) := by decide +kernel
theorem d_Mo_keep_190 : decode b_Mo_keep 190 = .ok (.lconst 0, 1) := by decide +kernel
theorem d_Mo_keep_191 : decode b_Mo_keep 191 = .ok (.invokestatic 129, 3) := by decide +kernel
theorem d_Mo_keep_194 : decode b_Mo_keep 194 = .ok (.ifCond .ne 63, 3) := by decide +kernel
theorem d_Mo_keep_197 : decode b_Mo_keep 197 = .ok (.aload 4, 2) := by decide +kernel
theorem d_Mo_keep_199 : decode b_Mo_keep 199 = .ok (.ldc2_w 261, 3) := by decide +kernel
theorem d_Mo_keep_202 : decode b_Mo_keep 202 = .ok (.lconst 0, 1) := by decide +kernel
theorem d_Mo_keep_203 : decode b_Mo_keep 203 = .ok (.invokestatic 129, 3) := by decide +kernel
theorem d_Mo_keep_206 : decode b_Mo_keep 206 = .ok (.ifCond .ne 51, 3) := by decide +kernel
theorem d_Mo_keep_209 : decode b_Mo_keep 209 = .ok (.aload_n 3, 1) := by decide +kernel
theorem d_Mo_keep_210 : decode b_Mo_keep 210 = .ok (.getfield 191, 3) := by decide +kernel
theorem d_Mo_keep_213 : decode b_Mo_keep 213 = .ok (.invokestatic 263, 3) := by decide +kernel
theorem d_Mo_keep_216 : decode b_Mo_keep 216 = .ok (.ifCond .ne 41, 3) := by decide +kernel
theorem d_Mo_keep_219 : decode b_Mo_keep 219 = .ok (.aload_n 0, 1) := by decide +kernel
theorem d_Mo_keep_220 : decode b_Mo_keep 220 = .ok (.getfield 22, 3) := by decide +kernel
theorem d_Mo_keep_223 : decode b_Mo_keep 223 = .ok (.invokestatic 220, 3) := by decide +kernel
theorem d_Mo_keep_226 : decode b_Mo_keep 226 = .ok (.invokestatic 91, 3) := by decide +kernel
theorem d_Mo_keep_229 : decode b_Mo_keep 229 = .ok (.ldc2_w 259, 3) := by decide +kernel
theorem d_Mo_keep_232 : decode b_Mo_keep 232 = .ok (.lconst 0, 1) := by decide +kernel
theorem d_Mo_keep_233 : decode b_Mo_keep 233 = .ok (.invokestatic 129, 3) := by decide +kernel
theorem d_Mo_keep_236 : decode b_Mo_keep 236 = .ok (.ifCond .ne 21, 3) := by decide +kernel
theorem d_Mo_keep_239 : decode b_Mo_keep 239 = .ok (.aload_n 3, 1) := by decide +kernel
theorem d_Mo_keep_240 : decode b_Mo_keep 240 = .ok (.getfield 158, 3) := by decide +kernel
theorem d_Mo_keep_243 : decode b_Mo_keep 243 = .ok (.ifCond .gt 10, 3) := by decide +kernel
theorem d_Mo_keep_246 : decode b_Mo_keep 246 = .ok (.aload_n 3, 1) := by decide +kernel
theorem d_Mo_keep_247 : decode b_Mo_keep 247 = .ok (.getfield 242, 3) := by decide +kernel
theorem d_Mo_keep_250 : decode b_Mo_keep 250 = .ok (.ifnull 7, 3) := by decide +kernel
theorem d_Mo_keep_257 : decode b_Mo_keep 257 = .ok (.iconst 0, 1) := by decide +kernel
theorem d_Mo_keep_258 : decode b_Mo_keep 258 = .ok (.istore 7, 2) := by decide +kernel
theorem d_Mo_keep_260 : decode b_Mo_keep 260 = .ok (.iload 7, 2) := by decide +kernel
theorem d_Mo_keep_262 : decode b_Mo_keep 262 = .ok (.ifCond .ne 5, 3) := by decide +kernel
theorem d_Mo_keep_265 : decode b_Mo_keep 265 = .ok (.iconst 0, 1) := by decide +kernel
theorem d_Mo_keep_266 : decode b_Mo_keep 266 = .ok (.ireturn, 1) := by decide +kernel
set_option maxRecDepth 20000 in
theorem w_918 : Cond.constantLong "VaryStoreModel" 117 8299409953712596837 ∈ TB := tb_in 918 (by decide +kernel) (by decide +kernel)
set_option maxRecDepth 20000 in
theorem w_872 : Cond.fieldLink "VaryStoreModel" 119 "VaryStoreModel$Thing" "sMaxAge" "I"  ∈ TB := tb_in 872 (by decide +kernel) (by decide +kernel)
set_option maxRecDepth 20000 in
theorem w_842 : Cond.constantLong "VaryStoreModel" 122 30787941246789477 ∈ TB := tb_in 842 (by decide +kernel) (by decide +kernel)
set_option maxRecDepth 20000 in
theorem w_874 : Cond.fieldLink "VaryStoreModel" 124 "VaryStoreModel$Thing" "maxAge" "I"  ∈ TB := tb_in 874 (by decide +kernel) (by decide +kernel)
set_option maxRecDepth 20000 in
theorem w_829 : Cond.constantLong "VaryStoreModel" 127 7957628971445872741 ∈ TB := tb_in 829 (by decide +kernel) (by decide +kernel)
set_option maxRecDepth 20000 in
theorem w_832 : Cond.code ⟨"VaryStoreModel", "has", "([IJJ)Z"⟩ prog_8_method_23_code 5 (some .boolean) ∈ TB := tb_in 832 (by decide +kernel) (by decide +kernel)
set_option maxRecDepth 20000 in
theorem w_830 : Cond.methodLink "VaryStoreModel" 129 ⟨"VaryStoreModel", "has", "([IJJ)Z"⟩ ∈ TB := tb_in 830 (by decide +kernel) (by decide +kernel)
set_option maxRecDepth 20000 in
theorem w_831 : Cond.static ⟨"VaryStoreModel", "has", "([IJJ)Z"⟩ ∈ TB := tb_in 831 (by decide +kernel) (by decide +kernel)
set_option maxRecDepth 20000 in
theorem w_878 : Cond.fieldLink "VaryStoreModel" 133 "VaryStoreModel$Thing" "noCache" "Z"  ∈ TB := tb_in 878 (by decide +kernel) (by decide +kernel)
set_option maxRecDepth 20000 in
theorem w_919 : Cond.constantLong "VaryStoreModel" 137 7887337265225164150 ∈ TB := tb_in 919 (by decide +kernel) (by decide +kernel)
set_option maxRecDepth 20000 in
theorem w_920 : Cond.constantLong "VaryStoreModel" 139 27422272652407909 ∈ TB := tb_in 920 (by decide +kernel) (by decide +kernel)
set_option maxRecDepth 20000 in
theorem w_921 : Cond.constantLong "VaryStoreModel" 141 8102661242812723813 ∈ TB := tb_in 921 (by decide +kernel) (by decide +kernel)
set_option maxRecDepth 20000 in
theorem w_922 : Cond.constantLong "VaryStoreModel" 143 8530218369127904357 ∈ TB := tb_in 922 (by decide +kernel) (by decide +kernel)
set_option maxRecDepth 20000 in
theorem w_879 : Cond.fieldLink "VaryStoreModel" 145 "VaryStoreModel$Thing" "mustAsk" "Z"  ∈ TB := tb_in 879 (by decide +kernel) (by decide +kernel)
set_option maxRecDepth 20000 in
theorem w_927 : Cond.constantLong "VaryStoreModel" 148 28561396848551283 ∈ TB := tb_in 927 (by decide +kernel) (by decide +kernel)
set_option maxRecDepth 20000 in
theorem w_930 : Cond.code ⟨"VaryStoreModel", "numberIn", "(LVaryStoreModel$Text;[I)I"⟩ prog_8_method_19_code 3 (some .int) ∈ TB := tb_in 930 (by decide +kernel) (by decide +kernel)
set_option maxRecDepth 20000 in
theorem w_928 : Cond.methodLink "VaryStoreModel" 150 ⟨"VaryStoreModel", "numberIn", "(LVaryStoreModel$Text;[I)I"⟩ ∈ TB := tb_in 928 (by decide +kernel) (by decide +kernel)
set_option maxRecDepth 20000 in
theorem w_929 : Cond.static ⟨"VaryStoreModel", "numberIn", "(LVaryStoreModel$Text;[I)I"⟩ ∈ TB := tb_in 929 (by decide +kernel) (by decide +kernel)
set_option maxRecDepth 20000 in
theorem w_931 : Cond.constantLong "VaryStoreModel" 154 1684108389 ∈ TB := tb_in 931 (by decide +kernel) (by decide +kernel)
set_option maxRecDepth 20000 in
theorem w_932 : Cond.constantLong "VaryStoreModel" 156 6383461 ∈ TB := tb_in 932 (by decide +kernel) (by decide +kernel)
set_option maxRecDepth 20000 in
theorem w_875 : Cond.fieldLink "VaryStoreModel" 158 "VaryStoreModel$Thing" "life" "I"  ∈ TB := tb_in 875 (by decide +kernel) (by decide +kernel)
set_option maxRecDepth 20000 in
theorem w_876 : Cond.fieldLink "VaryStoreModel" 161 "VaryStoreModel$Thing" "age" "I"  ∈ TB := tb_in 876 (by decide +kernel) (by decide +kernel)
set_option maxRecDepth 20000 in
theorem w_733 : Cond.fieldLink "VaryStoreModel" 164 "VaryStoreModel" "time" "I"  ∈ TB := tb_in 733 (by decide +kernel) (by decide +kernel)
set_option maxRecDepth 20000 in
theorem w_877 : Cond.fieldLink "VaryStoreModel" 167 "VaryStoreModel$Thing" "since" "I"  ∈ TB := tb_in 877 (by decide +kernel) (by decide +kernel)
set_option maxRecDepth 20000 in
theorem w_774 : Cond.code ⟨"VaryStoreModel", "read", "()LVaryStoreModel$Text;"⟩ prog_8_method_8_code 6 (some (.object "VaryStoreModel$Text")) ∈ TB := tb_in 774 (by decide +kernel) (by decide +kernel)
set_option maxRecDepth 20000 in
theorem w_771 : Cond.methodLink "VaryStoreModel" 213 ⟨"VaryStoreModel", "read", "()LVaryStoreModel$Text;"⟩ ∈ TB := tb_in 771 (by decide +kernel) (by decide +kernel)
set_option maxRecDepth 20000 in
theorem w_773 : Cond.instanceMethod ⟨"VaryStoreModel", "read", "()LVaryStoreModel$Text;"⟩ ∈ TB := tb_in 773 (by decide +kernel) (by decide +kernel)
set_option maxRecDepth 20000 in
theorem w_17 : Cond.selects "VaryStoreModel" ⟨"VaryStoreModel", "read", "()LVaryStoreModel$Text;"⟩ ⟨"VaryStoreModel", "read", "()LVaryStoreModel$Text;"⟩ ∈ TB := tb_in 17 (by decide +kernel) (by decide +kernel)
set_option maxRecDepth 20000 in
theorem w_786 : Cond.code ⟨"VaryStoreModel", "isPath", "(I)Z"⟩ prog_8_method_33_code 1 (some .boolean) ∈ TB := tb_in 786 (by decide +kernel) (by decide +kernel)
set_option maxRecDepth 20000 in
theorem w_784 : Cond.methodLink "VaryStoreModel" 217 ⟨"VaryStoreModel", "isPath", "(I)Z"⟩ ∈ TB := tb_in 784 (by decide +kernel) (by decide +kernel)
set_option maxRecDepth 20000 in
theorem w_785 : Cond.static ⟨"VaryStoreModel", "isPath", "(I)Z"⟩ ∈ TB := tb_in 785 (by decide +kernel) (by decide +kernel)
set_option maxRecDepth 20000 in
theorem w_789 : Cond.code ⟨"VaryStoreModel", "cacheControl", "()[I"⟩ prog_8_method_22_code 0 (some (.array .int)) ∈ TB := tb_in 789 (by decide +kernel) (by decide +kernel)
set_option maxRecDepth 20000 in
theorem w_787 : Cond.methodLink "VaryStoreModel" 220 ⟨"VaryStoreModel", "cacheControl", "()[I"⟩ ∈ TB := tb_in 787 (by decide +kernel) (by decide +kernel)
set_option maxRecDepth 20000 in
theorem w_788 : Cond.static ⟨"VaryStoreModel", "cacheControl", "()[I"⟩ ∈ TB := tb_in 788 (by decide +kernel) (by decide +kernel)
set_option maxRecDepth 20000 in
theorem w_810 : Cond.code ⟨"VaryStoreModel", "theOne", "(I)I"⟩ prog_8_method_32_code 7 (some .int) ∈ TB := tb_in 810 (by decide +kernel) (by decide +kernel)
set_option maxRecDepth 20000 in
theorem w_807 : Cond.methodLink "VaryStoreModel" 224 ⟨"VaryStoreModel", "theOne", "(I)I"⟩ ∈ TB := tb_in 807 (by decide +kernel) (by decide +kernel)
set_option maxRecDepth 20000 in
theorem w_809 : Cond.instanceMethod ⟨"VaryStoreModel", "theOne", "(I)I"⟩ ∈ TB := tb_in 809 (by decide +kernel) (by decide +kernel)
set_option maxRecDepth 20000 in
theorem w_18 : Cond.selects "VaryStoreModel" ⟨"VaryStoreModel", "theOne", "(I)I"⟩ ⟨"VaryStoreModel", "theOne", "(I)I"⟩ ∈ TB := tb_in 18 (by decide +kernel) (by decide +kernel)
set_option maxRecDepth 20000 in
theorem w_859 : Cond.constantLong "VaryStoreModel" 231 8029474453356897837 ∈ TB := tb_in 859 (by decide +kernel) (by decide +kernel)
set_option maxRecDepth 20000 in
theorem w_860 : Cond.constantLong "VaryStoreModel" 233 109269930763620 ∈ TB := tb_in 860 (by decide +kernel) (by decide +kernel)
set_option maxRecDepth 20000 in
theorem w_865 : Cond.instantiable "VaryStoreModel$Thing" 12 ∈ TB := tb_in 865 (by decide +kernel) (by decide +kernel)
set_option maxRecDepth 20000 in
theorem w_48 : Cond.initialized "VaryStoreModel$Thing" ∈ TB := tb_in 48 (by decide +kernel) (by decide +kernel)
set_option maxRecDepth 20000 in
theorem w_868 : Cond.code ⟨"VaryStoreModel$Thing", "<init>", "()V"⟩ prog_10_method_1_code 1 none ∈ TB := tb_in 868 (by decide +kernel) (by decide +kernel)
set_option maxRecDepth 20000 in
theorem w_866 : Cond.methodLinkNest "VaryStoreModel" 235 ⟨"VaryStoreModel$Thing", "<init>", "()V"⟩ "VaryStoreModel" ∈ NB := nb_in 866 (by decide +kernel) (by decide +kernel)
set_option maxRecDepth 20000 in
theorem w_867 : Cond.instanceMethod ⟨"VaryStoreModel$Thing", "<init>", "()V"⟩ ∈ TB := tb_in 867 (by decide +kernel) (by decide +kernel)
set_option maxRecDepth 20000 in
theorem w_870 : Cond.fieldLink "VaryStoreModel" 188 "VaryStoreModel$Thing" "path" "I"  ∈ TB := tb_in 870 (by decide +kernel) (by decide +kernel)
set_option maxRecDepth 20000 in
theorem w_909 : Cond.constantLong "VaryStoreModel" 236 1986097785 ∈ TB := tb_in 909 (by decide +kernel) (by decide +kernel)
set_option maxRecDepth 20000 in
theorem w_818 : Cond.arrayOver (.array .int) ∈ NB := nb_in 818 (by decide +kernel) (by decide +kernel)
set_option maxRecDepth 20000 in
theorem w_817 : Cond.classLink "VaryStoreModel" 78 "[I" ∈ TB := tb_in 817 (by decide +kernel) (by decide +kernel)
set_option maxRecDepth 20000 in
theorem w_881 : Cond.fieldLink "VaryStoreModel" 191 "VaryStoreModel$Thing" "vary" "[[I"  ∈ TB := tb_in 881 (by decide +kernel) (by decide +kernel)
set_option maxRecDepth 20000 in
theorem w_882 : Cond.fieldLink "VaryStoreModel" 195 "VaryStoreModel$Thing" "values" "[[I"  ∈ TB := tb_in 882 (by decide +kernel) (by decide +kernel)
set_option maxRecDepth 20000 in
theorem w_912 : Cond.code ⟨"VaryStoreModel", "etagOf", "(LVaryStoreModel$Text;)[I"⟩ prog_8_method_21_code 2 (some (.array .int)) ∈ TB := tb_in 912 (by decide +kernel) (by decide +kernel)
set_option maxRecDepth 20000 in
theorem w_910 : Cond.methodLink "VaryStoreModel" 238 ⟨"VaryStoreModel", "etagOf", "(LVaryStoreModel$Text;)[I"⟩ ∈ TB := tb_in 910 (by decide +kernel) (by decide +kernel)
set_option maxRecDepth 20000 in
theorem w_911 : Cond.static ⟨"VaryStoreModel", "etagOf", "(LVaryStoreModel$Text;)[I"⟩ ∈ TB := tb_in 911 (by decide +kernel) (by decide +kernel)
set_option maxRecDepth 20000 in
theorem w_880 : Cond.fieldLink "VaryStoreModel" 242 "VaryStoreModel$Thing" "etag" "[I"  ∈ TB := tb_in 880 (by decide +kernel) (by decide +kernel)
set_option maxRecDepth 20000 in
theorem w_917 : Cond.code ⟨"VaryStoreModel", "setWords", "(LVaryStoreModel$Thing;[I)V"⟩ prog_8_method_24_code 3 none ∈ TB := tb_in 917 (by decide +kernel) (by decide +kernel)
set_option maxRecDepth 20000 in
theorem w_914 : Cond.methodLink "VaryStoreModel" 245 ⟨"VaryStoreModel", "setWords", "(LVaryStoreModel$Thing;[I)V"⟩ ∈ TB := tb_in 914 (by decide +kernel) (by decide +kernel)
set_option maxRecDepth 20000 in
theorem w_916 : Cond.instanceMethod ⟨"VaryStoreModel", "setWords", "(LVaryStoreModel$Thing;[I)V"⟩ ∈ TB := tb_in 916 (by decide +kernel) (by decide +kernel)
set_option maxRecDepth 20000 in
theorem w_23 : Cond.selects "VaryStoreModel" ⟨"VaryStoreModel", "setWords", "(LVaryStoreModel$Thing;[I)V"⟩ ⟨"VaryStoreModel", "setWords", "(LVaryStoreModel$Thing;[I)V"⟩ ∈ TB := tb_in 23 (by decide +kernel) (by decide +kernel)
set_option maxRecDepth 20000 in
theorem w_926 : Cond.code ⟨"VaryStoreModel", "setTimes", "(LVaryStoreModel$Thing;LVaryStoreModel$Text;)V"⟩ prog_8_method_25_code 7 none ∈ TB := tb_in 926 (by decide +kernel) (by decide +kernel)
set_option maxRecDepth 20000 in
theorem w_923 : Cond.methodLink "VaryStoreModel" 249 ⟨"VaryStoreModel", "setTimes", "(LVaryStoreModel$Thing;LVaryStoreModel$Text;)V"⟩ ∈ TB := tb_in 923 (by decide +kernel) (by decide +kernel)
set_option maxRecDepth 20000 in
theorem w_925 : Cond.instanceMethod ⟨"VaryStoreModel", "setTimes", "(LVaryStoreModel$Thing;LVaryStoreModel$Text;)V"⟩ ∈ TB := tb_in 925 (by decide +kernel) (by decide +kernel)
set_option maxRecDepth 20000 in
theorem w_24 : Cond.selects "VaryStoreModel" ⟨"VaryStoreModel", "setTimes", "(LVaryStoreModel$Thing;LVaryStoreModel$Text;)V"⟩ ⟨"VaryStoreModel", "setTimes", "(LVaryStoreModel$Thing;LVaryStoreModel$Text;)V"⟩ ∈ TB := tb_in 24 (by decide +kernel) (by decide +kernel)
set_option maxRecDepth 20000 in
theorem w_936 : Cond.code ⟨"VaryStoreModel", "placeOf", "(LVaryStoreModel$Thing;)I"⟩ prog_8_method_31_code 6 (some .int) ∈ TB := tb_in 936 (by decide +kernel) (by decide +kernel)
set_option maxRecDepth 20000 in
theorem w_933 : Cond.methodLink "VaryStoreModel" 253 ⟨"VaryStoreModel", "placeOf", "(LVaryStoreModel$Thing;)I"⟩ ∈ TB := tb_in 933 (by decide +kernel) (by decide +kernel)
set_option maxRecDepth 20000 in
theorem w_935 : Cond.instanceMethod ⟨"VaryStoreModel", "placeOf", "(LVaryStoreModel$Thing;)I"⟩ ∈ TB := tb_in 935 (by decide +kernel) (by decide +kernel)
set_option maxRecDepth 20000 in
theorem w_25 : Cond.selects "VaryStoreModel" ⟨"VaryStoreModel", "placeOf", "(LVaryStoreModel$Thing;)I"⟩ ⟨"VaryStoreModel", "placeOf", "(LVaryStoreModel$Thing;)I"⟩ ∈ TB := tb_in 25 (by decide +kernel) (by decide +kernel)
set_option maxRecDepth 20000 in
theorem w_941 : Cond.constantLong "VaryStoreModel" 259 7957629040484905573 ∈ TB := tb_in 941 (by decide +kernel) (by decide +kernel)
set_option maxRecDepth 20000 in
theorem w_942 : Cond.constantLong "VaryStoreModel" 261 31650994674824293 ∈ TB := tb_in 942 (by decide +kernel) (by decide +kernel)
set_option maxRecDepth 20000 in
theorem w_945 : Cond.code ⟨"VaryStoreModel", "hasStar", "([[I)Z"⟩ prog_8_method_36_code 2 (some .boolean) ∈ TB := tb_in 945 (by decide +kernel) (by decide +kernel)
set_option maxRecDepth 20000 in
theorem w_943 : Cond.methodLink "VaryStoreModel" 263 ⟨"VaryStoreModel", "hasStar", "([[I)Z"⟩ ∈ TB := tb_in 943 (by decide +kernel) (by decide +kernel)
set_option maxRecDepth 20000 in
theorem w_944 : Cond.static ⟨"VaryStoreModel", "hasStar", "([[I)Z"⟩ ∈ TB := tb_in 944 (by decide +kernel) (by decide +kernel)
set_option maxRecDepth 100000 in
theorem fa_Mo_119 : FA "VaryStoreModel" 119 8 1 R_Mg F_Mg 12 t_Mg := ⟨rfl, uw_Mg, by decide, to_Mg, n_Mg, Or.inl w_872⟩
set_option maxRecDepth 100000 in
theorem fa_Mo_124 : FA "VaryStoreModel" 124 8 2 R_Mg F_Mg 12 t_Mg := ⟨rfl, uw_Mg, by decide, to_Mg, n_Mg, Or.inl w_874⟩
set_option maxRecDepth 100000 in
theorem fa_Mo_133 : FA "VaryStoreModel" 133 8 6 R_Mg F_Mg 12 t_Mg := ⟨rfl, uw_Mg, by decide, to_Mg, n_Mg, Or.inl w_878⟩
set_option maxRecDepth 100000 in
theorem fa_Mo_145 : FA "VaryStoreModel" 145 8 7 R_Mg F_Mg 12 t_Mg := ⟨rfl, uw_Mg, by decide, to_Mg, n_Mg, Or.inl w_879⟩
set_option maxRecDepth 100000 in
theorem fa_Mo_158 : FA "VaryStoreModel" 158 8 3 R_Mg F_Mg 12 t_Mg := ⟨rfl, uw_Mg, by decide, to_Mg, n_Mg, Or.inl w_875⟩
set_option maxRecDepth 100000 in
theorem fa_Mo_161 : FA "VaryStoreModel" 161 8 4 R_Mg F_Mg 12 t_Mg := ⟨rfl, uw_Mg, by decide, to_Mg, n_Mg, Or.inl w_876⟩
set_option maxRecDepth 100000 in
theorem fa_Mo_164 : FA "VaryStoreModel" 164 6 3 R_Mo F_Mo 9 t_Mo := ⟨rfl, uw_Mo, by decide, to_Mo, n_Mo, Or.inl w_733⟩
set_option maxRecDepth 100000 in
theorem fa_Mo_167 : FA "VaryStoreModel" 167 8 5 R_Mg F_Mg 12 t_Mg := ⟨rfl, uw_Mg, by decide, to_Mg, n_Mg, Or.inl w_877⟩
set_option maxRecDepth 100000 in
theorem fa_Mo_188 : FA "VaryStoreModel" 188 8 0 R_Mg F_Mg 12 t_Mg := ⟨rfl, uw_Mg, by decide, to_Mg, n_Mg, Or.inl w_870⟩
set_option maxRecDepth 100000 in
theorem fa_Mo_191 : FA "VaryStoreModel" 191 8 9 R_Mg F_Mg 12 t_Mg := ⟨rfl, uw_Mg, by decide, to_Mg, n_Mg, Or.inl w_881⟩
set_option maxRecDepth 100000 in
theorem fa_Mo_195 : FA "VaryStoreModel" 195 8 10 R_Mg F_Mg 12 t_Mg := ⟨rfl, uw_Mg, by decide, to_Mg, n_Mg, Or.inl w_882⟩
set_option maxRecDepth 100000 in
theorem fa_Mo_242 : FA "VaryStoreModel" 242 8 8 R_Mg F_Mg 12 t_Mg := ⟨rfl, uw_Mg, by decide, to_Mg, n_Mg, Or.inl w_880⟩
def k_Mo_setWords0 : MS := ("VaryStoreModel", b_Mo_setWords, 3, none, "setWords", { frames := 2, cells := 5, slots := 80, locals := 52 }, [])
set_option maxRecDepth 100000 in
set_option maxHeartbeats 4000000 in
theorem c_Mo_setWords0 (Γ : GE) (r : Nat) (g : Nat) (g0 : Int) (g1 : Int) (g2 : Int) (g3 : Int) (g4 : Int) (g5 : Int) (g6 : Int) (g7 : Int) (us : Int64) (e1 : Nat) (e2 : Nat) {M : HM} {n : Nat} (hgn : g < n) (p0 : M (g) = some (.inr (8, [.int (iI (g0)), .int (iI (g1)), .int (iI (g2)), .int (iI (g3)), .int (iI (g4)), .int (iI (g5)), .int (iI (g6)), .int (iI (g7)), .null, .ref (e1), .ref (e2), .long (us)]))) : CT Γ k_Mo_setWords0 y_Mo_setWords [.ref (r), .ref (g), .null] M (n) (fun v M' n' => n + 5 = n' ∧ (∀ q, q ≠ n → q ≠ g → q ≠ n + 1 → q ≠ n + 2 → q ≠ n + 3 → q ≠ n + 4 → M' q = M q) ∧ v = none ∧ M' (g) = some (.inr (8, [.int (iI (g0)), .int (iI ((-2))), .int (iI ((-2))), .int (iI (g3)), .int (iI (g4)), .int (iI (g5)), .int (iI (0)), .int (iI (0)), .null, .ref (e1), .ref (e2), .long (us)]))) := by
  refine CT.of (by decide) rfl rfl 0 rfl (Nat.le_of_ble_eq_true rfl) rfl ?_
  refine g_aload_n d_Mo_setWords_0 rfl ?_
  refine g_aload_nN d_Mo_setWords_1 rfl ?_
  refine g_ldcL w_918 d_Mo_setWords_2 ?_
  refine g_lconst d_Mo_setWords_5 rfl ?_
  refine g_callS2 (ν := k_Mo_name) ⟨w_792, w_35, w_794, by decide, by decide, by decide +kernel⟩ w_793 (c_Mo_name Γ (8299409953712596837) (Int64.ofNat 0)  ) d_Mo_setWords_6 ⟨⟨by decide, by decide⟩, ⟨by decide, by decide⟩⟩ (Nat.le_of_ble_eq_true rfl) (fun v1 M1 n1 hQ1 hn1 hd1 => ?_)
  obtain ⟨rfl, hf1, kn1x0, fn1x1, rfl, hb1_kn1x0_0, hw1_0⟩ := hQ1
  refine g_callS2 (ν := k_Mo_word0) ⟨w_833, w_35, w_835, by decide, by decide, by decide +kernel⟩ w_834 (c_Mo_word0 Γ (n)  ) d_Mo_setWords_9 ⟨⟨by decide, by decide⟩, ⟨by decide, by decide⟩⟩ (Nat.le_of_ble_eq_true rfl) (fun v2 M2 n2 hQ2 hn2 hd2 => ?_)
  obtain ⟨rfl, hf2, rfl⟩ := hQ2
  refine g_put fa_Mo_119 d_Mo_setWords_12 ((hf2 (g) ).trans ((hf1 (g) (by omega)).trans p0)) (Nat.le_of_ble_eq_true rfl) rfl rfl rfl ?_
  refine g_aload_n d_Mo_setWords_15 rfl ?_
  refine g_aload_nN d_Mo_setWords_16 rfl ?_
  refine g_ldcL w_842 d_Mo_setWords_17 ?_
  refine g_lconst d_Mo_setWords_20 rfl ?_
  refine g_callS2 (ν := k_Mo_name) ⟨w_792, w_35, w_794, by decide, by decide, by decide +kernel⟩ w_793 (c_Mo_name Γ (30787941246789477) (Int64.ofNat 0)  ) d_Mo_setWords_21 ⟨⟨by decide, by decide⟩, ⟨by decide, by decide⟩⟩ (Nat.le_of_ble_eq_true rfl) (fun v3 M3 n3 hQ3 hn3 hd3 => ?_)
  obtain ⟨rfl, hf3, kn3x0, fn3x1, rfl, hb3_kn3x0_0, hw3_0⟩ := hQ3
  refine g_callS2 (ν := k_Mo_word0) ⟨w_833, w_35, w_835, by decide, by decide, by decide +kernel⟩ w_834 (c_Mo_word0 Γ (n + 1)  ) d_Mo_setWords_24 ⟨⟨by decide, by decide⟩, ⟨by decide, by decide⟩⟩ (Nat.le_of_ble_eq_true rfl) (fun v4 M4 n4 hQ4 hn4 hd4 => ?_)
  obtain ⟨rfl, hf4, rfl⟩ := hQ4
  refine g_put fa_Mo_124 d_Mo_setWords_27 ((hf4 (g) ).trans ((hf3 (g) (by omega)).trans (hu_same _ _ _))) (Nat.le_of_ble_eq_true rfl) rfl rfl rfl ?_
  refine g_aload_n d_Mo_setWords_30 rfl ?_
  refine g_aload_nN d_Mo_setWords_31 rfl ?_
  refine g_ldcL w_829 d_Mo_setWords_32 ?_
  refine g_lconst d_Mo_setWords_35 rfl ?_
  refine g_callS3 (ν := k_Mo_has0) ⟨w_830, w_35, w_832, by decide, by decide, by decide +kernel⟩ w_831 (c_Mo_has0 Γ (7957628971445872741) (Int64.ofNat 0)  ) d_Mo_setWords_36 ⟨⟨by decide, by decide⟩, ⟨by decide, by decide⟩⟩ (Nat.le_of_ble_eq_true rfl) (fun v5 M5 n5 hQ5 hn5 hd5 => ?_)
  obtain ⟨rfl, hf5, rfl⟩ := hQ5
  refine g_put fa_Mo_133 d_Mo_setWords_39 ((hf5 (g) (by omega)).trans (hu_same _ _ _)) (Nat.le_of_ble_eq_true rfl) rfl (by first | rfl | decide) rfl ?_
  refine g_aload_n d_Mo_setWords_42 rfl ?_
  refine g_aload_n d_Mo_setWords_43 rfl ?_
  refine g_get fa_Mo_133 d_Mo_setWords_44 (hu_same _ _ _) rfl ?_
  refine g_if_ne (tgt := 85) d_Mo_setWords_47 (by decide) (fun h6 => False.elim (by omega)) (fun _ => ?_)
  refine g_aload_n d_Mo_setWords_50 rfl ?_
  refine g_get fa_Mo_119 d_Mo_setWords_51 (hu_same _ _ _) rfl ?_
  refine g_bipush d_Mo_setWords_54 (by decide) ?_
  refine g_icmp_ne (tgt := 85) d_Mo_setWords_56 (by decide) (fun h7 => False.elim (by omega)) (fun _ => ?_)
  refine g_aload_nN d_Mo_setWords_59 rfl ?_
  refine g_ldcL w_919 d_Mo_setWords_60 ?_
  refine g_ldcL w_920 d_Mo_setWords_63 ?_
  refine g_callS3 (ν := k_Mo_has0) ⟨w_830, w_35, w_832, by decide, by decide, by decide +kernel⟩ w_831 (c_Mo_has0 Γ (7887337265225164150) (27422272652407909)  ) d_Mo_setWords_66 ⟨⟨by decide, by decide⟩, ⟨by decide, by decide⟩⟩ (Nat.le_of_ble_eq_true rfl) (fun v8 M8 n8 hQ8 hn8 hd8 => ?_)
  obtain ⟨rfl, hf8, rfl⟩ := hQ8
  refine g_if_ne (tgt := 85) d_Mo_setWords_69 (by decide) (fun h9 => False.elim (by omega)) (fun _ => ?_)
  refine g_aload_nN d_Mo_setWords_72 rfl ?_
  refine g_ldcL w_921 d_Mo_setWords_73 ?_
  refine g_ldcL w_922 d_Mo_setWords_76 ?_
  refine g_callS3 (ν := k_Mo_has0) ⟨w_830, w_35, w_832, by decide, by decide, by decide +kernel⟩ w_831 (c_Mo_has0 Γ (8102661242812723813) (8530218369127904357)  ) d_Mo_setWords_79 ⟨⟨by decide, by decide⟩, ⟨by decide, by decide⟩⟩ (Nat.le_of_ble_eq_true rfl) (fun v10 M10 n10 hQ10 hn10 hd10 => ?_)
  obtain ⟨rfl, hf10, rfl⟩ := hQ10
  refine g_if_eq (tgt := 89) d_Mo_setWords_82 (by decide) (fun _ => ?_) (fun h11 => False.elim (by omega))
  refine g_iconst d_Mo_setWords_89 ?_
  refine g_put fa_Mo_145 d_Mo_setWords_90 ((hf10 (g) (by omega)).trans ((hf8 (g) (by omega)).trans (hu_same _ _ _))) (Nat.le_of_ble_eq_true rfl) rfl (by first | rfl | decide) rfl ?_
  refine g_vret d_Mo_setWords_93 rfl ?_ (by decide) (by decide)
  exact ⟨rfl, fun q e0 e1 e2 e3 e4 e5 => ((hu_ne (by omega)).trans ((hf10 q (by omega)).trans ((hf8 q (by omega)).trans ((hu_ne (by omega)).trans ((hf5 q (by omega)).trans ((hu_ne (by omega)).trans ((hf4 q ).trans ((hf3 q (by omega)).trans ((hu_ne (by omega)).trans ((hf2 q ).trans ((hf1 q (by omega)).trans rfl))))))))))), rfl, (hu_same _ _ _)⟩
def k_Mo_setTimes0 : MS := ("VaryStoreModel", b_Mo_setTimes, 7, none, "setTimes", { frames := 2, cells := 3, slots := 48, locals := 48 }, [])
set_option maxRecDepth 100000 in
set_option maxHeartbeats 4000000 in
theorem c_Mo_setTimes0 (Γ : GE) (r : Nat) (fa : Int) (tm : Int) (th : Int) (ev : Int64) (rq : Nat) (g : Nat) (t : Nat) (g0 : Int) (g3 : Int) (g4 : Int) (g5 : Int) (g6 : Int) (g7 : Int) (us : Int64) (e1 : Nat) (e2 : Nat) (x0 : Nat) (x1 : Nat) (x2 : Nat) (x3 : Nat) {M : HM} {n : Nat} (hgn : g < n) (htn : t < n) (hrn : r + 8 ≤ n) (hgr : r + 8 ≤ g ∨ g < r) (hgt : g ≠ t) (p0 : M (r) = some (.inr (6, [.ref (r + 1), .int (iI (0)), .int (iI (fa)), .int (iI (tm)), .int (iI (th)), .long (ev), .ref (rq), .ref (r + 7), .int (iI (0))]))) (p1 : M (g) = some (.inr (8, [.int (iI (g0)), .int (iI ((-2))), .int (iI ((-2))), .int (iI (g3)), .int (iI (g4)), .int (iI (g5)), .int (iI (g6)), .int (iI (g7)), .null, .ref (e1), .ref (e2), .long (us)]))) (p2 : M (t) = some (.inr (7, [.ref (x0), .int (iI (0)), .ref (x1), .ref (x2), .ref (x3)]))) : CT Γ k_Mo_setTimes0 y_Mo_setTimes [.ref (r), .ref (g), .ref (t)] M (n) (fun v M' n' => n + 3 = n' ∧ (∀ q, q ≠ n → q ≠ n + 1 → q ≠ n + 2 → q ≠ g → M' q = M q) ∧ v = none ∧ M' (g) = some (.inr (8, [.int (iI (g0)), .int (iI ((-2))), .int (iI ((-2))), .int (iI (0)), .int (iI (0)), .int (iI (tm)), .int (iI (g6)), .int (iI (g7)), .null, .ref (e1), .ref (e2), .long (us)]))) := by
  refine CT.of (by decide) rfl rfl 4 rfl (Nat.le_of_ble_eq_true rfl) rfl ?_
  refine g_aload_n d_Mo_setTimes_0 rfl ?_
  refine g_ldcL w_927 d_Mo_setTimes_1 ?_
  refine g_lconst d_Mo_setTimes_4 rfl ?_
  refine g_callS2 (ν := k_Mo_name) ⟨w_792, w_35, w_794, by decide, by decide, by decide +kernel⟩ w_793 (c_Mo_name Γ (28561396848551283) (Int64.ofNat 0)  ) d_Mo_setTimes_5 ⟨⟨by decide, by decide⟩, ⟨by decide, by decide⟩⟩ (Nat.le_of_ble_eq_true rfl) (fun v1 M1 n1 hQ1 hn1 hd1 => ?_)
  obtain ⟨rfl, hf1, kn1x0, fn1x1, rfl, hb1_kn1x0_0, hw1_0⟩ := hQ1
  refine g_callS2 (ν := k_Mo_numberIn0) ⟨w_928, w_35, w_930, by decide, by decide, by decide +kernel⟩ w_929 (c_Mo_numberIn0 Γ (t) (n) (x0) (x1) (x2) (x3)  ((hf1 (t) (by omega)).trans p2)) d_Mo_setTimes_8 ⟨⟨by decide, by decide⟩, ⟨by decide, by decide⟩⟩ (Nat.le_of_ble_eq_true rfl) (fun v2 M2 n2 hQ2 hn2 hd2 => ?_)
  obtain ⟨rfl, hf2, rfl⟩ := hQ2
  refine g_istore_n d_Mo_setTimes_11 (by decide) rfl ?_
  refine g_aload_n d_Mo_setTimes_12 rfl ?_
  refine g_ldcL w_931 d_Mo_setTimes_13 ?_
  refine g_lconst d_Mo_setTimes_16 rfl ?_
  refine g_callS2 (ν := k_Mo_name) ⟨w_792, w_35, w_794, by decide, by decide, by decide +kernel⟩ w_793 (c_Mo_name Γ (1684108389) (Int64.ofNat 0)  ) d_Mo_setTimes_17 ⟨⟨by decide, by decide⟩, ⟨by decide, by decide⟩⟩ (Nat.le_of_ble_eq_true rfl) (fun v3 M3 n3 hQ3 hn3 hd3 => ?_)
  obtain ⟨rfl, hf3, kn3x0, fn3x1, rfl, hb3_kn3x0_0, hw3_0⟩ := hQ3
  refine g_callS2 (ν := k_Mo_numberIn0) ⟨w_928, w_35, w_930, by decide, by decide, by decide +kernel⟩ w_929 (c_Mo_numberIn0 Γ (t) (n + 1) (x0) (x1) (x2) (x3)  ((hf3 (t) (by omega)).trans ((hf2 (t) ).trans ((hf1 (t) (by omega)).trans p2)))) d_Mo_setTimes_20 ⟨⟨by decide, by decide⟩, ⟨by decide, by decide⟩⟩ (Nat.le_of_ble_eq_true rfl) (fun v4 M4 n4 hQ4 hn4 hd4 => ?_)
  obtain ⟨rfl, hf4, rfl⟩ := hQ4
  refine g_istore d_Mo_setTimes_23 (by decide) rfl ?_
  refine g_aload_n d_Mo_setTimes_25 rfl ?_
  refine g_ldcL w_932 d_Mo_setTimes_26 ?_
  refine g_lconst d_Mo_setTimes_29 rfl ?_
  refine g_callS2 (ν := k_Mo_name) ⟨w_792, w_35, w_794, by decide, by decide, by decide +kernel⟩ w_793 (c_Mo_name Γ (6383461) (Int64.ofNat 0)  ) d_Mo_setTimes_30 ⟨⟨by decide, by decide⟩, ⟨by decide, by decide⟩⟩ (Nat.le_of_ble_eq_true rfl) (fun v5 M5 n5 hQ5 hn5 hd5 => ?_)
  obtain ⟨rfl, hf5, kn5x0, fn5x1, rfl, hb5_kn5x0_0, hw5_0⟩ := hQ5
  refine g_callS2 (ν := k_Mo_numberIn0) ⟨w_928, w_35, w_930, by decide, by decide, by decide +kernel⟩ w_929 (c_Mo_numberIn0 Γ (t) (n + 2) (x0) (x1) (x2) (x3)  ((hf5 (t) (by omega)).trans ((hf4 (t) ).trans ((hf3 (t) (by omega)).trans ((hf2 (t) ).trans ((hf1 (t) (by omega)).trans p2)))))) d_Mo_setTimes_33 ⟨⟨by decide, by decide⟩, ⟨by decide, by decide⟩⟩ (Nat.le_of_ble_eq_true rfl) (fun v6 M6 n6 hQ6 hn6 hd6 => ?_)
  obtain ⟨rfl, hf6, rfl⟩ := hQ6
  refine g_istore d_Mo_setTimes_36 (by decide) rfl ?_
  refine g_iload_n d_Mo_setTimes_38 rfl ?_
  refine g_if_lt (tgt := 60) d_Mo_setTimes_39 (by decide) (fun _ => ?_) (fun h7 => False.elim (by omega))
  refine g_iconst d_Mo_setTimes_60 ?_
  refine g_istore d_Mo_setTimes_61 (by decide) rfl ?_
  refine g_aload_n d_Mo_setTimes_63 rfl ?_
  refine g_aload_n d_Mo_setTimes_64 rfl ?_
  refine g_get fa_Mo_119 d_Mo_setTimes_65 ((hf6 (g) ).trans ((hf5 (g) (by omega)).trans ((hf4 (g) ).trans ((hf3 (g) (by omega)).trans ((hf2 (g) ).trans ((hf1 (g) (by omega)).trans p1)))))) rfl ?_
  refine g_if_lt (tgt := 78) d_Mo_setTimes_68 (by decide) (fun _ => ?_) (fun h8 => False.elim (by omega))
  refine g_aload_n d_Mo_setTimes_78 rfl ?_
  refine g_get fa_Mo_124 d_Mo_setTimes_79 ((hf6 (g) ).trans ((hf5 (g) (by omega)).trans ((hf4 (g) ).trans ((hf3 (g) (by omega)).trans ((hf2 (g) ).trans ((hf1 (g) (by omega)).trans p1)))))) rfl ?_
  refine g_if_lt (tgt := 92) d_Mo_setTimes_82 (by decide) (fun _ => ?_) (fun h9 => False.elim (by omega))
  refine g_iload d_Mo_setTimes_92 rfl ?_
  refine g_put fa_Mo_158 d_Mo_setTimes_94 ((hf6 (g) ).trans ((hf5 (g) (by omega)).trans ((hf4 (g) ).trans ((hf3 (g) (by omega)).trans ((hf2 (g) ).trans ((hf1 (g) (by omega)).trans p1)))))) (Nat.le_of_ble_eq_true rfl) rfl rfl rfl ?_
  refine g_aload_n d_Mo_setTimes_97 rfl ?_
  refine g_iload d_Mo_setTimes_98 rfl ?_
  refine g_if_lt (tgt := 108) d_Mo_setTimes_100 (by decide) (fun _ => ?_) (fun h10 => False.elim (by omega))
  refine g_iconst d_Mo_setTimes_108 ?_
  refine g_put fa_Mo_161 d_Mo_setTimes_109 (hu_same _ _ _) (Nat.le_of_ble_eq_true rfl) rfl rfl rfl ?_
  refine g_aload_n d_Mo_setTimes_112 rfl ?_
  refine g_aload_n d_Mo_setTimes_113 rfl ?_
  refine g_get fa_Mo_164 d_Mo_setTimes_114 ((hu_ne (by omega)).trans ((hu_ne (by omega)).trans ((hf6 (r) ).trans ((hf5 (r) (by omega)).trans ((hf4 (r) ).trans ((hf3 (r) (by omega)).trans ((hf2 (r) ).trans ((hf1 (r) (by omega)).trans p0)))))))) rfl ?_
  refine g_put fa_Mo_167 d_Mo_setTimes_117 (hu_same _ _ _) (Nat.le_of_ble_eq_true rfl) rfl rfl rfl ?_
  refine g_vret d_Mo_setTimes_120 rfl ?_ (by decide) (by decide)
  exact ⟨rfl, fun q e0 e1 e2 e3 => ((hu_ne (by omega)).trans ((hu_ne (by omega)).trans ((hu_ne (by omega)).trans ((hf6 q ).trans ((hf5 q (by omega)).trans ((hf4 q ).trans ((hf3 q (by omega)).trans ((hf2 q ).trans ((hf1 q (by omega)).trans rfl))))))))), rfl, (hu_same _ _ _)⟩
def k_Mo_ask0 : MS := ("VaryStoreModel", b_Mo_ask, 6, (some .int), "ask", { frames := 3, cells := 5, slots := 305, locals := 58 }, [])
set_option maxRecDepth 100000 in
set_option maxHeartbeats 4000000 in
theorem c_Mo_ask0 (Γ : GE) (r : Nat) (fa : Int) (tm : Int) (th : Int) (ev : Int64) (rq : Nat) (path : Int) {M : HM} {n : Nat} (pa : -2147483648 ≤ path) (pb : path < 2147483648) (pc9 : ¬ (0 ≤ path ∧ path < 16)) (hrn : r + 8 ≤ n) (p0 : M (r) = some (.inr (6, [.ref (r + 1), .int (iI (0)), .int (iI (fa)), .int (iI (tm)), .int (iI (th)), .long (ev), .ref (rq), .ref (r + 7), .int (iI (0))]))) : CT Γ k_Mo_ask0 y_Mo_ask [.ref (r), .int (iI (path))] M (n) (fun v M' n' => n + 5 = n' ∧ (∀ q, q ≠ r → q ≠ n → q ≠ n + 1 → q ≠ n + 2 → q ≠ n + 3 → q ≠ n + 4 → M' q = M q) ∧ v = some (.int (iI (0))) ∧ M' (r) = some (.inr (6, [.ref (r + 1), .int (iI (0)), .int (iI ((-1))), .int (iI (tm)), .int (iI (1)), .long (ev), .ref (rq), .ref (r + 7), .int (iI (0))])) ∧ M' (n) = some (.inr (7, [.ref (n + 4), .int (iI (0)), .ref (n + 1), .ref (n + 2), .ref (n + 3)])) ∧ M' (n + 1) = some (.inl (Γ.2.2.1 1, 100, .inl (fun _ => iI 0))) ∧ M' (n + 2) = some (.inl (Γ.2.2.1 1, 100, .inl (fun _ => iI 0))) ∧ M' (n + 3) = some (.inl (Γ.2.2.1 1, 100, .inl (fun _ => iI 0))) ∧ M' (n + 4) = some (.inl (Γ.2.2.1 1, 0, .inl (fun _ => iI 0)))) := by
  refine CT.of (by decide) rfl rfl 4 rfl (Nat.le_of_ble_eq_true rfl) rfl ?_
  refine g_aload_n d_Mo_ask_0 rfl ?_
  refine g_callV0 (ν := k_Mo_read0) ⟨w_771, w_35, w_774, by decide, by decide, by decide +kernel⟩ w_773 w_17 (c_Mo_read0 Γ (r) (fa) (tm) (th) (ev) (rq) (by omega) p0) d_Mo_ask_1 p0 rfl rfl ⟨⟨by decide, by decide⟩, ⟨by decide, by decide⟩⟩ (Nat.le_of_ble_eq_true rfl) (fun v1 M1 n1 hQ1 hn1 hd1 => ?_)
  obtain ⟨rfl, hf1, rfl, hw1_0, hw1_1, hw1_2, hw1_3, hw1_4, hw1_5⟩ := hQ1
  refine g_astore_n d_Mo_ask_4 (by decide) rfl ?_
  refine g_aload_n d_Mo_ask_5 rfl ?_
  refine g_aload_n d_Mo_ask_6 rfl ?_
  refine g_ifnull d_Mo_ask_7 ?_
  refine g_iload_n d_Mo_ask_10 rfl ?_
  refine g_callS1 (ν := k_Mo_isPath0) ⟨w_784, w_35, w_786, by decide, by decide, by decide +kernel⟩ w_785 (c_Mo_isPath0 Γ (path) (by omega) (by omega) (by omega) ) d_Mo_ask_11 ⟨⟨by decide, by decide⟩, ⟨by decide, by decide⟩⟩ (Nat.le_of_ble_eq_true rfl) (fun v2 M2 n2 hQ2 hn2 hd2 => ?_)
  obtain ⟨rfl, hf2, rfl⟩ := hQ2
  refine g_if_ne (tgt := 21) d_Mo_ask_14 (by decide) (fun h3 => False.elim (by omega)) (fun _ => ?_)
  refine g_iconst d_Mo_ask_17 ?_
  refine g_goto (tgt := 22) d_Mo_ask_18 (by decide) ?_
  refine g_put fa_Mo_32 d_Mo_ask_22 ((hf2 (r) ).trans hw1_0) (Nat.le_of_ble_eq_true rfl) rfl rfl rfl ?_
  refine g_aload_n d_Mo_ask_25 rfl ?_
  refine g_get fa_Mo_32 d_Mo_ask_26 (hu_same _ _ _) rfl ?_
  refine g_if_eq (tgt := 34) d_Mo_ask_29 (by decide) (fun h4 => False.elim (by omega)) (fun _ => ?_)
  refine g_iconst d_Mo_ask_32 ?_
  refine g_iret d_Mo_ask_33 rfl ?_ (by decide) (by decide)
  exact ⟨rfl, fun q e0 e1 e2 e3 e4 e5 => ((hu_ne (by omega)).trans ((hf2 q ).trans ((hf1 q (by omega) (by omega) (by omega) (by omega) (by omega) (by omega)).trans rfl))), rfl, (hu_same _ _ _), ((hu_ne (by omega)).trans ((hf2 (n) ).trans hw1_1)), ((hu_ne (by omega)).trans ((hf2 (n + 1) ).trans hw1_2)), ((hu_ne (by omega)).trans ((hf2 (n + 2) ).trans hw1_3)), ((hu_ne (by omega)).trans ((hf2 (n + 3) ).trans hw1_4)), ((hu_ne (by omega)).trans ((hf2 (n + 4) ).trans hw1_5))⟩
def k_Mo_ask1 : MS := ("VaryStoreModel", b_Mo_ask, 6, (some .int), "ask", { frames := 3, cells := 7, slots := 337, locals := 58 }, [])
set_option maxRecDepth 100000 in
set_option maxHeartbeats 4000000 in
theorem c_Mo_ask1 (Γ : GE) (r : Nat) (fa : Int) (tm : Int) (th : Int) (ev : Int64) (rq : Nat) (path : Int) {M : HM} {n : Nat} (pa : 0 ≤ path) (pb : path < 16) (hrn : r + 8 ≤ n) (p0 : M (r) = some (.inr (6, [.ref (r + 1), .int (iI (0)), .int (iI (fa)), .int (iI (tm)), .int (iI (th)), .long (ev), .ref (rq), .ref (r + 7), .int (iI (0))]))) : CT Γ k_Mo_ask1 y_Mo_ask [.ref (r), .int (iI (path))] M (n) (fun v M' n' => n + 7 = n' ∧ (∀ q, q ≠ r → q ≠ n → q ≠ n + 1 → q ≠ n + 2 → q ≠ n + 3 → q ≠ n + 4 → q ≠ n + 5 → q ≠ n + 6 → M' q = M q) ∧ v = some (.int (iI (0))) ∧ M' (r) = some (.inr (6, [.ref (r + 1), .int (iI (0)), .int (iI ((-1))), .int (iI (tm)), .int (iI (0)), .long (ev), .ref (n), .ref (r + 7), .int (iI (0))])) ∧ M' (n) = some (.inr (7, [.ref (n + 4), .int (iI (0)), .ref (n + 1), .ref (n + 2), .ref (n + 3)])) ∧ M' (n + 1) = some (.inl (Γ.2.2.1 1, 100, .inl (fun _ => iI 0))) ∧ M' (n + 2) = some (.inl (Γ.2.2.1 1, 100, .inl (fun _ => iI 0))) ∧ M' (n + 3) = some (.inl (Γ.2.2.1 1, 100, .inl (fun _ => iI 0))) ∧ M' (n + 4) = some (.inl (Γ.2.2.1 1, 0, .inl (fun _ => iI 0)))) := by
  refine CT.of (by decide) rfl rfl 4 rfl (Nat.le_of_ble_eq_true rfl) rfl ?_
  refine g_aload_n d_Mo_ask_0 rfl ?_
  refine g_callV0 (ν := k_Mo_read0) ⟨w_771, w_35, w_774, by decide, by decide, by decide +kernel⟩ w_773 w_17 (c_Mo_read0 Γ (r) (fa) (tm) (th) (ev) (rq) (by omega) p0) d_Mo_ask_1 p0 rfl rfl ⟨⟨by decide, by decide⟩, ⟨by decide, by decide⟩⟩ (Nat.le_of_ble_eq_true rfl) (fun v1 M1 n1 hQ1 hn1 hd1 => ?_)
  obtain ⟨rfl, hf1, rfl, hw1_0, hw1_1, hw1_2, hw1_3, hw1_4, hw1_5⟩ := hQ1
  refine g_astore_n d_Mo_ask_4 (by decide) rfl ?_
  refine g_aload_n d_Mo_ask_5 rfl ?_
  refine g_aload_n d_Mo_ask_6 rfl ?_
  refine g_ifnull d_Mo_ask_7 ?_
  refine g_iload_n d_Mo_ask_10 rfl ?_
  refine g_callS1 (ν := k_Mo_isPath1) ⟨w_784, w_35, w_786, by decide, by decide, by decide +kernel⟩ w_785 (c_Mo_isPath1 Γ (path) (by omega) (by omega) ) d_Mo_ask_11 ⟨⟨by decide, by decide⟩, ⟨by decide, by decide⟩⟩ (Nat.le_of_ble_eq_true rfl) (fun v2 M2 n2 hQ2 hn2 hd2 => ?_)
  obtain ⟨rfl, hf2, rfl⟩ := hQ2
  refine g_if_ne (tgt := 21) d_Mo_ask_14 (by decide) (fun _ => ?_) (fun h3 => False.elim (by omega))
  refine g_iconst d_Mo_ask_21 ?_
  refine g_put fa_Mo_32 d_Mo_ask_22 ((hf2 (r) ).trans hw1_0) (Nat.le_of_ble_eq_true rfl) rfl rfl rfl ?_
  refine g_aload_n d_Mo_ask_25 rfl ?_
  refine g_get fa_Mo_32 d_Mo_ask_26 (hu_same _ _ _) rfl ?_
  refine g_if_eq (tgt := 34) d_Mo_ask_29 (by decide) (fun _ => ?_) (fun h4 => False.elim (by omega))
  refine g_aload_n d_Mo_ask_34 rfl ?_
  refine g_aload_n d_Mo_ask_35 rfl ?_
  refine g_put fa_Mo_22 d_Mo_ask_36 (hu_same _ _ _) (Nat.le_of_ble_eq_true rfl) rfl rfl rfl ?_
  refine g_aload_n d_Mo_ask_39 rfl ?_
  refine g_callS0 (ν := k_Mo_cacheControl) ⟨w_787, w_35, w_789, by decide, by decide, by decide +kernel⟩ w_788 (c_Mo_cacheControl Γ   ) d_Mo_ask_40 ⟨⟨by decide, by decide⟩, ⟨by decide, by decide⟩⟩ (Nat.le_of_ble_eq_true rfl) (fun v5 M5 n5 hQ5 hn5 hd5 => ?_)
  obtain ⟨rfl, hf5, kn5x0, fn5x1, rfl, hb5_kn5x0_0, hw5_0⟩ := hQ5
  refine g_callS2 (ν := k_Mo_valueOf0) ⟨w_795, w_35, w_797, by decide, by decide, by decide +kernel⟩ w_796 (c_Mo_valueOf0 Γ (n) (n + 5) (n + 4) (n + 1) (n + 2) (n + 3)  ((hf5 (n) (by omega)).trans ((hu_ne (by omega)).trans ((hu_ne (by omega)).trans ((hf2 (n) ).trans hw1_1))))) d_Mo_ask_43 ⟨⟨by decide, by decide⟩, ⟨by decide, by decide⟩⟩ (Nat.le_of_ble_eq_true rfl) (fun v6 M6 n6 hQ6 hn6 hd6 => ?_)
  obtain ⟨rfl, hf6, rfl⟩ := hQ6
  refine g_astore_nN d_Mo_ask_46 (by decide) rfl ?_
  refine g_aload_n d_Mo_ask_47 rfl ?_
  refine g_iload_n d_Mo_ask_48 rfl ?_
  refine g_callV1 (ν := k_Mo_theOne0) ⟨w_807, w_35, w_810, by decide, by decide, by decide +kernel⟩ w_809 w_18 (c_Mo_theOne0 Γ (r) ((-1)) (tm) (0) (ev) (n) (path)  ((hf6 (r) ).trans ((hf5 (r) (by omega)).trans (hu_same _ _ _)))) d_Mo_ask_49 ((hf6 (r) ).trans ((hf5 (r) (by omega)).trans (hu_same _ _ _))) rfl rfl ⟨⟨by decide, by decide⟩, ⟨by decide, by decide⟩⟩ (Nat.le_of_ble_eq_true rfl) (fun v7 M7 n7 hQ7 hn7 hd7 => ?_)
  obtain ⟨rfl, hf7, rfl⟩ := hQ7
  refine g_istore d_Mo_ask_52 (by decide) rfl ?_
  refine g_iload d_Mo_ask_54 rfl ?_
  refine g_iconst d_Mo_ask_56 ?_
  refine g_icmp_ne (tgt := 64) d_Mo_ask_57 (by decide) (fun h8 => False.elim (by omega)) (fun _ => ?_)
  refine g_iconst d_Mo_ask_60 ?_
  refine g_goto (tgt := 76) d_Mo_ask_61 (by decide) ?_
  refine g_istore d_Mo_ask_76 (by decide) rfl ?_
  refine g_iload d_Mo_ask_78 rfl ?_
  refine g_iconst d_Mo_ask_80 ?_
  refine g_icmp_eq (tgt := 90) d_Mo_ask_81 (by decide) (fun h9 => False.elim (by omega)) (fun _ => ?_)
  refine g_iload d_Mo_ask_84 rfl ?_
  refine g_iconst d_Mo_ask_86 ?_
  refine g_icmp_ne (tgt := 104) d_Mo_ask_87 (by decide) (fun _ => ?_) (fun h10 => False.elim (by omega))
  refine g_aload_nN d_Mo_ask_104 rfl ?_
  refine g_ldcL w_859 d_Mo_ask_105 ?_
  refine g_ldcL w_860 d_Mo_ask_108 ?_
  refine g_callS3 (ν := k_Mo_has0) ⟨w_830, w_35, w_832, by decide, by decide, by decide +kernel⟩ w_831 (c_Mo_has0 Γ (8029474453356897837) (109269930763620)  ) d_Mo_ask_111 ⟨⟨by decide, by decide⟩, ⟨by decide, by decide⟩⟩ (Nat.le_of_ble_eq_true rfl) (fun v11 M11 n11 hQ11 hn11 hd11 => ?_)
  obtain ⟨rfl, hf11, rfl⟩ := hQ11
  refine g_if_eq (tgt := 119) d_Mo_ask_114 (by decide) (fun _ => ?_) (fun h12 => False.elim (by omega))
  refine g_iload d_Mo_ask_119 rfl ?_
  refine g_iret d_Mo_ask_121 rfl ?_ (by decide) (by decide)
  exact ⟨rfl, fun q e0 e1 e2 e3 e4 e5 e6 e7 => ((hf11 q (by omega)).trans ((hf7 q ).trans ((hf6 q ).trans ((hf5 q (by omega)).trans ((hu_ne (by omega)).trans ((hu_ne (by omega)).trans ((hf2 q ).trans ((hf1 q (by omega) (by omega) (by omega) (by omega) (by omega) (by omega)).trans rfl)))))))), rfl, ((hf11 (r) (by omega)).trans ((hf7 (r) ).trans ((hf6 (r) ).trans ((hf5 (r) (by omega)).trans (hu_same _ _ _))))), ((hf11 (n) (by omega)).trans ((hf7 (n) ).trans ((hf6 (n) ).trans ((hf5 (n) (by omega)).trans ((hu_ne (by omega)).trans ((hu_ne (by omega)).trans ((hf2 (n) ).trans hw1_1))))))), ((hf11 (n + 1) (by omega)).trans ((hf7 (n + 1) ).trans ((hf6 (n + 1) ).trans ((hf5 (n + 1) (by omega)).trans ((hu_ne (by omega)).trans ((hu_ne (by omega)).trans ((hf2 (n + 1) ).trans hw1_2))))))), ((hf11 (n + 2) (by omega)).trans ((hf7 (n + 2) ).trans ((hf6 (n + 2) ).trans ((hf5 (n + 2) (by omega)).trans ((hu_ne (by omega)).trans ((hu_ne (by omega)).trans ((hf2 (n + 2) ).trans hw1_3))))))), ((hf11 (n + 3) (by omega)).trans ((hf7 (n + 3) ).trans ((hf6 (n + 3) ).trans ((hf5 (n + 3) (by omega)).trans ((hu_ne (by omega)).trans ((hu_ne (by omega)).trans ((hf2 (n + 3) ).trans hw1_4))))))), ((hf11 (n + 4) (by omega)).trans ((hf7 (n + 4) ).trans ((hf6 (n + 4) ).trans ((hf5 (n + 4) (by omega)).trans ((hu_ne (by omega)).trans ((hu_ne (by omega)).trans ((hf2 (n + 4) ).trans hw1_5)))))))⟩
def k_Mo_again0 : MS := ("VaryStoreModel", b_Mo_again, 7, (some .boolean), "again", { frames := 3, cells := 5, slots := 305, locals := 58 }, [])
set_option maxRecDepth 100000 in
set_option maxHeartbeats 4000000 in
theorem c_Mo_again0 (Γ : GE) (r : Nat) (fa : Int) (tm : Int) (th : Int) (ev : Int64) (rq : Nat) (path : Int) {M : HM} {n : Nat} (pa : -2147483648 ≤ path) (pb : path < 2147483648) (pc9 : ¬ (0 ≤ path ∧ path < 16)) (hrn : r + 8 ≤ n) (p0 : M (r) = some (.inr (6, [.ref (r + 1), .int (iI (0)), .int (iI (fa)), .int (iI (tm)), .int (iI (th)), .long (ev), .ref (rq), .ref (r + 7), .int (iI (0))]))) : CT Γ k_Mo_again0 y_Mo_again [.ref (r), .int (iI (path))] M (n) (fun v M' n' => n + 5 = n' ∧ (∀ q, q ≠ r → q ≠ n → q ≠ n + 1 → q ≠ n + 2 → q ≠ n + 3 → q ≠ n + 4 → M' q = M q) ∧ v = some (.int (iI (0))) ∧ M' (r) = some (.inr (6, [.ref (r + 1), .int (iI (0)), .int (iI ((-1))), .int (iI (tm)), .int (iI (1)), .long (ev), .ref (rq), .ref (r + 7), .int (iI (0))])) ∧ M' (n) = some (.inr (7, [.ref (n + 4), .int (iI (0)), .ref (n + 1), .ref (n + 2), .ref (n + 3)])) ∧ M' (n + 1) = some (.inl (Γ.2.2.1 1, 100, .inl (fun _ => iI 0))) ∧ M' (n + 2) = some (.inl (Γ.2.2.1 1, 100, .inl (fun _ => iI 0))) ∧ M' (n + 3) = some (.inl (Γ.2.2.1 1, 100, .inl (fun _ => iI 0))) ∧ M' (n + 4) = some (.inl (Γ.2.2.1 1, 0, .inl (fun _ => iI 0)))) := by
  refine CT.of (by decide) rfl rfl 5 rfl (Nat.le_of_ble_eq_true rfl) rfl ?_
  refine g_aload_n d_Mo_again_0 rfl ?_
  refine g_callV0 (ν := k_Mo_read0) ⟨w_771, w_35, w_774, by decide, by decide, by decide +kernel⟩ w_773 w_17 (c_Mo_read0 Γ (r) (fa) (tm) (th) (ev) (rq) (by omega) p0) d_Mo_again_1 p0 rfl rfl ⟨⟨by decide, by decide⟩, ⟨by decide, by decide⟩⟩ (Nat.le_of_ble_eq_true rfl) (fun v1 M1 n1 hQ1 hn1 hd1 => ?_)
  obtain ⟨rfl, hf1, rfl, hw1_0, hw1_1, hw1_2, hw1_3, hw1_4, hw1_5⟩ := hQ1
  refine g_astore_n d_Mo_again_4 (by decide) rfl ?_
  refine g_aload_n d_Mo_again_5 rfl ?_
  refine g_aload_n d_Mo_again_6 rfl ?_
  refine g_ifnull d_Mo_again_7 ?_
  refine g_iload_n d_Mo_again_10 rfl ?_
  refine g_callS1 (ν := k_Mo_isPath0) ⟨w_784, w_35, w_786, by decide, by decide, by decide +kernel⟩ w_785 (c_Mo_isPath0 Γ (path) (by omega) (by omega) (by omega) ) d_Mo_again_11 ⟨⟨by decide, by decide⟩, ⟨by decide, by decide⟩⟩ (Nat.le_of_ble_eq_true rfl) (fun v2 M2 n2 hQ2 hn2 hd2 => ?_)
  obtain ⟨rfl, hf2, rfl⟩ := hQ2
  refine g_if_ne (tgt := 21) d_Mo_again_14 (by decide) (fun h3 => False.elim (by omega)) (fun _ => ?_)
  refine g_iconst d_Mo_again_17 ?_
  refine g_goto (tgt := 22) d_Mo_again_18 (by decide) ?_
  refine g_put fa_Mo_32 d_Mo_again_22 ((hf2 (r) ).trans hw1_0) (Nat.le_of_ble_eq_true rfl) rfl rfl rfl ?_
  refine g_aload_n d_Mo_again_25 rfl ?_
  refine g_get fa_Mo_32 d_Mo_again_26 (hu_same _ _ _) rfl ?_
  refine g_if_eq (tgt := 34) d_Mo_again_29 (by decide) (fun h4 => False.elim (by omega)) (fun _ => ?_)
  refine g_iconst d_Mo_again_32 ?_
  refine g_zret (ty := .boolean) (by first | rfl | decide) d_Mo_again_33 rfl ?_ (by decide) (by decide)
  exact ⟨rfl, fun q e0 e1 e2 e3 e4 e5 => ((hu_ne (by omega)).trans ((hf2 q ).trans ((hf1 q (by omega) (by omega) (by omega) (by omega) (by omega) (by omega)).trans rfl))), rfl, (hu_same _ _ _), ((hu_ne (by omega)).trans ((hf2 (n) ).trans hw1_1)), ((hu_ne (by omega)).trans ((hf2 (n + 1) ).trans hw1_2)), ((hu_ne (by omega)).trans ((hf2 (n + 2) ).trans hw1_3)), ((hu_ne (by omega)).trans ((hf2 (n + 3) ).trans hw1_4)), ((hu_ne (by omega)).trans ((hf2 (n + 4) ).trans hw1_5))⟩
def k_Mo_again1 : MS := ("VaryStoreModel", b_Mo_again, 7, (some .boolean), "again", { frames := 3, cells := 5, slots := 305, locals := 58 }, [])
set_option maxRecDepth 100000 in
set_option maxHeartbeats 4000000 in
theorem c_Mo_again1 (Γ : GE) (r : Nat) (fa : Int) (tm : Int) (th : Int) (ev : Int64) (rq : Nat) (path : Int) {M : HM} {n : Nat} (pa : 0 ≤ path) (pb : path < 16) (hrn : r + 8 ≤ n) (p0 : M (r) = some (.inr (6, [.ref (r + 1), .int (iI (0)), .int (iI (fa)), .int (iI (tm)), .int (iI (th)), .long (ev), .ref (rq), .ref (r + 7), .int (iI (0))]))) : CT Γ k_Mo_again1 y_Mo_again [.ref (r), .int (iI (path))] M (n) (fun v M' n' => n + 5 = n' ∧ (∀ q, q ≠ r → q ≠ n → q ≠ n + 1 → q ≠ n + 2 → q ≠ n + 3 → q ≠ n + 4 → M' q = M q) ∧ v = some (.int (iI (0))) ∧ M' (r) = some (.inr (6, [.ref (r + 1), .int (iI (0)), .int (iI ((-1))), .int (iI (tm)), .int (iI (0)), .long (ev), .ref (rq), .ref (r + 7), .int (iI (0))])) ∧ M' (n) = some (.inr (7, [.ref (n + 4), .int (iI (0)), .ref (n + 1), .ref (n + 2), .ref (n + 3)])) ∧ M' (n + 1) = some (.inl (Γ.2.2.1 1, 100, .inl (fun _ => iI 0))) ∧ M' (n + 2) = some (.inl (Γ.2.2.1 1, 100, .inl (fun _ => iI 0))) ∧ M' (n + 3) = some (.inl (Γ.2.2.1 1, 100, .inl (fun _ => iI 0))) ∧ M' (n + 4) = some (.inl (Γ.2.2.1 1, 0, .inl (fun _ => iI 0)))) := by
  refine CT.of (by decide) rfl rfl 5 rfl (Nat.le_of_ble_eq_true rfl) rfl ?_
  refine g_aload_n d_Mo_again_0 rfl ?_
  refine g_callV0 (ν := k_Mo_read0) ⟨w_771, w_35, w_774, by decide, by decide, by decide +kernel⟩ w_773 w_17 (c_Mo_read0 Γ (r) (fa) (tm) (th) (ev) (rq) (by omega) p0) d_Mo_again_1 p0 rfl rfl ⟨⟨by decide, by decide⟩, ⟨by decide, by decide⟩⟩ (Nat.le_of_ble_eq_true rfl) (fun v1 M1 n1 hQ1 hn1 hd1 => ?_)
  obtain ⟨rfl, hf1, rfl, hw1_0, hw1_1, hw1_2, hw1_3, hw1_4, hw1_5⟩ := hQ1
  refine g_astore_n d_Mo_again_4 (by decide) rfl ?_
  refine g_aload_n d_Mo_again_5 rfl ?_
  refine g_aload_n d_Mo_again_6 rfl ?_
  refine g_ifnull d_Mo_again_7 ?_
  refine g_iload_n d_Mo_again_10 rfl ?_
  refine g_callS1 (ν := k_Mo_isPath1) ⟨w_784, w_35, w_786, by decide, by decide, by decide +kernel⟩ w_785 (c_Mo_isPath1 Γ (path) (by omega) (by omega) ) d_Mo_again_11 ⟨⟨by decide, by decide⟩, ⟨by decide, by decide⟩⟩ (Nat.le_of_ble_eq_true rfl) (fun v2 M2 n2 hQ2 hn2 hd2 => ?_)
  obtain ⟨rfl, hf2, rfl⟩ := hQ2
  refine g_if_ne (tgt := 21) d_Mo_again_14 (by decide) (fun _ => ?_) (fun h3 => False.elim (by omega))
  refine g_iconst d_Mo_again_21 ?_
  refine g_put fa_Mo_32 d_Mo_again_22 ((hf2 (r) ).trans hw1_0) (Nat.le_of_ble_eq_true rfl) rfl rfl rfl ?_
  refine g_aload_n d_Mo_again_25 rfl ?_
  refine g_get fa_Mo_32 d_Mo_again_26 (hu_same _ _ _) rfl ?_
  refine g_if_eq (tgt := 34) d_Mo_again_29 (by decide) (fun _ => ?_) (fun h4 => False.elim (by omega))
  refine g_aload_n d_Mo_again_34 rfl ?_
  refine g_iload_n d_Mo_again_35 rfl ?_
  refine g_callV1 (ν := k_Mo_theOne0) ⟨w_807, w_35, w_810, by decide, by decide, by decide +kernel⟩ w_809 w_18 (c_Mo_theOne0 Γ (r) ((-1)) (tm) (0) (ev) (rq) (path)  (hu_same _ _ _)) d_Mo_again_36 (hu_same _ _ _) rfl rfl ⟨⟨by decide, by decide⟩, ⟨by decide, by decide⟩⟩ (Nat.le_of_ble_eq_true rfl) (fun v5 M5 n5 hQ5 hn5 hd5 => ?_)
  obtain ⟨rfl, hf5, rfl⟩ := hQ5
  refine g_istore_n d_Mo_again_39 (by decide) rfl ?_
  refine g_iload_n d_Mo_again_40 rfl ?_
  refine g_iconst d_Mo_again_41 ?_
  refine g_icmp_ne (tgt := 47) d_Mo_again_42 (by decide) (fun h6 => False.elim (by omega)) (fun _ => ?_)
  refine g_iconst d_Mo_again_45 ?_
  refine g_zret (ty := .boolean) (by first | rfl | decide) d_Mo_again_46 rfl ?_ (by decide) (by decide)
  exact ⟨rfl, fun q e0 e1 e2 e3 e4 e5 => ((hf5 q ).trans ((hu_ne (by omega)).trans ((hf2 q ).trans ((hf1 q (by omega) (by omega) (by omega) (by omega) (by omega) (by omega)).trans rfl)))), rfl, ((hf5 (r) ).trans (hu_same _ _ _)), ((hf5 (n) ).trans ((hu_ne (by omega)).trans ((hf2 (n) ).trans hw1_1))), ((hf5 (n + 1) ).trans ((hu_ne (by omega)).trans ((hf2 (n + 1) ).trans hw1_2))), ((hf5 (n + 2) ).trans ((hu_ne (by omega)).trans ((hf2 (n + 2) ).trans hw1_3))), ((hf5 (n + 3) ).trans ((hu_ne (by omega)).trans ((hf2 (n + 3) ).trans hw1_4))), ((hf5 (n + 4) ).trans ((hu_ne (by omega)).trans ((hf2 (n + 4) ).trans hw1_5)))⟩
def k_Mo_keep0 : MS := ("VaryStoreModel", b_Mo_keep, 8, (some .boolean), "keep", { frames := 3, cells := 5, slots := 305, locals := 58 }, [])
set_option maxRecDepth 100000 in
set_option maxHeartbeats 4000000 in
theorem c_Mo_keep0 (Γ : GE) (r : Nat) (fa : Int) (tm : Int) (th : Int) (ev : Int64) (rq : Nat) (path : Int) {M : HM} {n : Nat} (pa : -2147483648 ≤ path) (pb : path < 2147483648) (pc9 : ¬ (0 ≤ path ∧ path < 16)) (hrn : r + 8 ≤ n) (p0 : M (r) = some (.inr (6, [.ref (r + 1), .int (iI (0)), .int (iI (fa)), .int (iI (tm)), .int (iI (th)), .long (ev), .ref (rq), .ref (r + 7), .int (iI (0))]))) : CT Γ k_Mo_keep0 y_Mo_keep [.ref (r), .int (iI (path))] M (n) (fun v M' n' => n + 5 = n' ∧ (∀ q, q ≠ r → q ≠ n → q ≠ n + 1 → q ≠ n + 2 → q ≠ n + 3 → q ≠ n + 4 → M' q = M q) ∧ v = some (.int (iI (0))) ∧ M' (r) = some (.inr (6, [.ref (r + 1), .int (iI (0)), .int (iI ((-1))), .int (iI (tm)), .int (iI (1)), .long (ev), .ref (rq), .ref (r + 7), .int (iI (0))])) ∧ M' (n) = some (.inr (7, [.ref (n + 4), .int (iI (0)), .ref (n + 1), .ref (n + 2), .ref (n + 3)])) ∧ M' (n + 1) = some (.inl (Γ.2.2.1 1, 100, .inl (fun _ => iI 0))) ∧ M' (n + 2) = some (.inl (Γ.2.2.1 1, 100, .inl (fun _ => iI 0))) ∧ M' (n + 3) = some (.inl (Γ.2.2.1 1, 100, .inl (fun _ => iI 0))) ∧ M' (n + 4) = some (.inl (Γ.2.2.1 1, 0, .inl (fun _ => iI 0)))) := by
  refine CT.of (by decide) rfl rfl 6 rfl (Nat.le_of_ble_eq_true rfl) rfl ?_
  refine g_aload_n d_Mo_keep_0 rfl ?_
  refine g_callV0 (ν := k_Mo_read0) ⟨w_771, w_35, w_774, by decide, by decide, by decide +kernel⟩ w_773 w_17 (c_Mo_read0 Γ (r) (fa) (tm) (th) (ev) (rq) (by omega) p0) d_Mo_keep_1 p0 rfl rfl ⟨⟨by decide, by decide⟩, ⟨by decide, by decide⟩⟩ (Nat.le_of_ble_eq_true rfl) (fun v1 M1 n1 hQ1 hn1 hd1 => ?_)
  obtain ⟨rfl, hf1, rfl, hw1_0, hw1_1, hw1_2, hw1_3, hw1_4, hw1_5⟩ := hQ1
  refine g_astore_n d_Mo_keep_4 (by decide) rfl ?_
  refine g_aload_n d_Mo_keep_5 rfl ?_
  refine g_aload_n d_Mo_keep_6 rfl ?_
  refine g_ifnull d_Mo_keep_7 ?_
  refine g_iload_n d_Mo_keep_10 rfl ?_
  refine g_callS1 (ν := k_Mo_isPath0) ⟨w_784, w_35, w_786, by decide, by decide, by decide +kernel⟩ w_785 (c_Mo_isPath0 Γ (path) (by omega) (by omega) (by omega) ) d_Mo_keep_11 ⟨⟨by decide, by decide⟩, ⟨by decide, by decide⟩⟩ (Nat.le_of_ble_eq_true rfl) (fun v2 M2 n2 hQ2 hn2 hd2 => ?_)
  obtain ⟨rfl, hf2, rfl⟩ := hQ2
  refine g_if_ne (tgt := 21) d_Mo_keep_14 (by decide) (fun h3 => False.elim (by omega)) (fun _ => ?_)
  refine g_iconst d_Mo_keep_17 ?_
  refine g_goto (tgt := 22) d_Mo_keep_18 (by decide) ?_
  refine g_put fa_Mo_32 d_Mo_keep_22 ((hf2 (r) ).trans hw1_0) (Nat.le_of_ble_eq_true rfl) rfl rfl rfl ?_
  refine g_aload_n d_Mo_keep_25 rfl ?_
  refine g_get fa_Mo_32 d_Mo_keep_26 (hu_same _ _ _) rfl ?_
  refine g_if_eq (tgt := 34) d_Mo_keep_29 (by decide) (fun h4 => False.elim (by omega)) (fun _ => ?_)
  refine g_iconst d_Mo_keep_32 ?_
  refine g_zret (ty := .boolean) (by first | rfl | decide) d_Mo_keep_33 rfl ?_ (by decide) (by decide)
  exact ⟨rfl, fun q e0 e1 e2 e3 e4 e5 => ((hu_ne (by omega)).trans ((hf2 q ).trans ((hf1 q (by omega) (by omega) (by omega) (by omega) (by omega) (by omega)).trans rfl))), rfl, (hu_same _ _ _), ((hu_ne (by omega)).trans ((hf2 (n) ).trans hw1_1)), ((hu_ne (by omega)).trans ((hf2 (n + 1) ).trans hw1_2)), ((hu_ne (by omega)).trans ((hf2 (n + 2) ).trans hw1_3)), ((hu_ne (by omega)).trans ((hf2 (n + 3) ).trans hw1_4)), ((hu_ne (by omega)).trans ((hf2 (n + 4) ).trans hw1_5))⟩
def k_Mo_keep1 : MS := ("VaryStoreModel", b_Mo_keep, 8, (some .boolean), "keep", { frames := 3, cells := 23, slots := 557, locals := 74 }, [])
set_option maxRecDepth 100000 in
set_option maxHeartbeats 4000000 in
theorem c_Mo_keep1 (Γ : GE) (r : Nat) (fa : Int) (tm : Int) (th : Int) (ev : Int64) (rq : Nat) (path : Int) (x0 : Nat) (x1 : Nat) (x2 : Nat) (x3 : Nat) {M : HM} {n : Nat} (pa : 0 ≤ path) (pb : path < 16) (hrn : r + 8 ≤ n) (hrq : rq + 5 ≤ n) (hrq2 : r + 1 ≤ rq) (p0 : M (r) = some (.inr (6, [.ref (r + 1), .int (iI (0)), .int (iI (fa)), .int (iI (tm)), .int (iI (th)), .long (ev), .ref (rq), .ref (r + 7), .int (iI (0))]))) (p1 : M (rq) = some (.inr (7, [.ref (x0), .int (iI (0)), .ref (x1), .ref (x2), .ref (x3)]))) : CT Γ k_Mo_keep1 y_Mo_keep [.ref (r), .int (iI (path))] M (n) (fun v M' n' => n + 23 = n' ∧ (∀ q, q ≠ r → q ≠ n → q ≠ n + 1 → q ≠ n + 2 → q ≠ n + 3 → q ≠ n + 4 → q ≠ n + 5 → q ≠ n + 6 → q ≠ n + 7 → q ≠ n + 8 → q ≠ n + 9 → q ≠ n + 10 → q ≠ n + 11 → q ≠ n + 12 → q ≠ n + 13 → q ≠ n + 14 → q ≠ n + 15 → q ≠ n + 16 → q ≠ n + 17 → q ≠ n + 18 → q ≠ n + 19 → q ≠ n + 20 → q ≠ n + 21 → q ≠ n + 22 → M' q = M q) ∧ v = some (.int (iI (0))) ∧ M' (r) = some (.inr (6, [.ref (r + 1), .int (iI (0)), .int (iI ((-1))), .int (iI (tm)), .int (iI (0)), .long (ev), .ref (rq), .ref (r + 7), .int (iI (0))])) ∧ M' (n) = some (.inr (7, [.ref (n + 4), .int (iI (0)), .ref (n + 1), .ref (n + 2), .ref (n + 3)])) ∧ M' (n + 1) = some (.inl (Γ.2.2.1 1, 100, .inl (fun _ => iI 0))) ∧ M' (n + 2) = some (.inl (Γ.2.2.1 1, 100, .inl (fun _ => iI 0))) ∧ M' (n + 3) = some (.inl (Γ.2.2.1 1, 100, .inl (fun _ => iI 0))) ∧ M' (n + 4) = some (.inl (Γ.2.2.1 1, 0, .inl (fun _ => iI 0))) ∧ M' (n + 5) = some (.inr (8, [.int (iI (path)), .int (iI ((-2))), .int (iI ((-2))), .int (iI (0)), .int (iI (0)), .int (iI (tm)), .int (iI (0)), .int (iI (0)), .null, .ref (n + 8), .ref (n + 9), .long (0)])) ∧ M' (n + 8) = some (.inl (Γ.2.2.1 5, 0, .inr (.inr (.inr (.inr (fun _ => none)))))) ∧ M' (n + 9) = some (.inl (Γ.2.2.1 5, 0, .inr (.inr (.inr (.inr (fun _ => none))))))) := by
  refine CT.of (by decide) rfl rfl 6 rfl (Nat.le_of_ble_eq_true rfl) rfl ?_
  refine g_aload_n d_Mo_keep_0 rfl ?_
  refine g_callV0 (ν := k_Mo_read0) ⟨w_771, w_35, w_774, by decide, by decide, by decide +kernel⟩ w_773 w_17 (c_Mo_read0 Γ (r) (fa) (tm) (th) (ev) (rq) (by omega) p0) d_Mo_keep_1 p0 rfl rfl ⟨⟨by decide, by decide⟩, ⟨by decide, by decide⟩⟩ (Nat.le_of_ble_eq_true rfl) (fun v1 M1 n1 hQ1 hn1 hd1 => ?_)
  obtain ⟨rfl, hf1, rfl, hw1_0, hw1_1, hw1_2, hw1_3, hw1_4, hw1_5⟩ := hQ1
  refine g_astore_n d_Mo_keep_4 (by decide) rfl ?_
  refine g_aload_n d_Mo_keep_5 rfl ?_
  refine g_aload_n d_Mo_keep_6 rfl ?_
  refine g_ifnull d_Mo_keep_7 ?_
  refine g_iload_n d_Mo_keep_10 rfl ?_
  refine g_callS1 (ν := k_Mo_isPath1) ⟨w_784, w_35, w_786, by decide, by decide, by decide +kernel⟩ w_785 (c_Mo_isPath1 Γ (path) (by omega) (by omega) ) d_Mo_keep_11 ⟨⟨by decide, by decide⟩, ⟨by decide, by decide⟩⟩ (Nat.le_of_ble_eq_true rfl) (fun v2 M2 n2 hQ2 hn2 hd2 => ?_)
  obtain ⟨rfl, hf2, rfl⟩ := hQ2
  refine g_if_ne (tgt := 21) d_Mo_keep_14 (by decide) (fun _ => ?_) (fun h3 => False.elim (by omega))
  refine g_iconst d_Mo_keep_21 ?_
  refine g_put fa_Mo_32 d_Mo_keep_22 ((hf2 (r) ).trans hw1_0) (Nat.le_of_ble_eq_true rfl) rfl rfl rfl ?_
  refine g_aload_n d_Mo_keep_25 rfl ?_
  refine g_get fa_Mo_32 d_Mo_keep_26 (hu_same _ _ _) rfl ?_
  refine g_if_eq (tgt := 34) d_Mo_keep_29 (by decide) (fun _ => ?_) (fun h4 => False.elim (by omega))
  refine g_new (ci := 8) t_Mg [.int (iI (0)), .int (iI (0)), .int (iI (0)), .int (iI (0)), .int (iI (0)), .int (iI (0)), .int (iI (0)), .int (iI (0)), .null, .null, .null, .long (0)] rfl uw_Mg to_Mg (fun j hj => by rcases (show j = 0 ∨ j = 1 ∨ j = 2 ∨ j = 3 ∨ j = 4 ∨ j = 5 ∨ j = 6 ∨ j = 7 ∨ j = 8 ∨ j = 9 ∨ j = 10 ∨ j = 11 by omega) with rfl | rfl | rfl | rfl | rfl | rfl | rfl | rfl | rfl | rfl | rfl | rfl <;> rfl) d_Mo_keep_34 w_728 w_865 w_48 (by decide) (by decide) ?_
  refine g_dup d_Mo_keep_37 rfl ?_
  refine g_callIN0 (ν := k_Mg_init) ⟨⟨"VaryStoreModel", w_866⟩, w_48, w_868, by decide, by decide, by decide +kernel⟩ w_867 rfl rfl (c_Mg_init Γ (n + 5)  (hu_same _ _ _)) d_Mo_keep_38 ⟨⟨by decide, by decide⟩, ⟨by decide, by decide⟩⟩ (Nat.le_of_ble_eq_true rfl) (fun v5 M5 n5 hQ5 hn5 hd5 => ?_)
  obtain ⟨rfl, hf5, rfl, hw5_0⟩ := hQ5
  refine g_astore_n d_Mo_keep_41 (by decide) rfl ?_
  refine g_aload_n d_Mo_keep_42 rfl ?_
  refine g_iload_n d_Mo_keep_43 rfl ?_
  refine g_put fa_Mo_188 d_Mo_keep_44 hw5_0 (Nat.le_of_ble_eq_true rfl) rfl rfl rfl ?_
  refine g_aload_n d_Mo_keep_47 rfl ?_
  refine g_callS0 (ν := k_Mo_cacheControl) ⟨w_787, w_35, w_789, by decide, by decide, by decide +kernel⟩ w_788 (c_Mo_cacheControl Γ   ) d_Mo_keep_48 ⟨⟨by decide, by decide⟩, ⟨by decide, by decide⟩⟩ (Nat.le_of_ble_eq_true rfl) (fun v6 M6 n6 hQ6 hn6 hd6 => ?_)
  obtain ⟨rfl, hf6, kn6x0, fn6x1, rfl, hb6_kn6x0_0, hw6_0⟩ := hQ6
  refine g_callS2 (ν := k_Mo_valueOf0) ⟨w_795, w_35, w_797, by decide, by decide, by decide +kernel⟩ w_796 (c_Mo_valueOf0 Γ (n) (n + 6) (n + 4) (n + 1) (n + 2) (n + 3)  ((hf6 (n) (by omega)).trans ((hu_ne (by omega)).trans ((hf5 (n) (by omega)).trans ((hu_ne (by omega)).trans ((hu_ne (by omega)).trans ((hf2 (n) ).trans hw1_1))))))) d_Mo_keep_51 ⟨⟨by decide, by decide⟩, ⟨by decide, by decide⟩⟩ (Nat.le_of_ble_eq_true rfl) (fun v7 M7 n7 hQ7 hn7 hd7 => ?_)
  obtain ⟨rfl, hf7, rfl⟩ := hQ7
  refine g_astoreN d_Mo_keep_54 (by decide) rfl ?_
  refine g_aload_n d_Mo_keep_56 rfl ?_
  refine g_ldcL w_909 d_Mo_keep_57 ?_
  refine g_lconst d_Mo_keep_60 rfl ?_
  refine g_callS2 (ν := k_Mo_name) ⟨w_792, w_35, w_794, by decide, by decide, by decide +kernel⟩ w_793 (c_Mo_name Γ (1986097785) (Int64.ofNat 0)  ) d_Mo_keep_61 ⟨⟨by decide, by decide⟩, ⟨by decide, by decide⟩⟩ (Nat.le_of_ble_eq_true rfl) (fun v8 M8 n8 hQ8 hn8 hd8 => ?_)
  obtain ⟨rfl, hf8, kn8x0, fn8x1, rfl, hb8_kn8x0_0, hw8_0⟩ := hQ8
  refine g_callS2 (ν := k_Mo_valueOf0) ⟨w_795, w_35, w_797, by decide, by decide, by decide +kernel⟩ w_796 (c_Mo_valueOf0 Γ (n) (n + 7) (n + 4) (n + 1) (n + 2) (n + 3)  ((hf8 (n) (by omega)).trans ((hf7 (n) ).trans ((hf6 (n) (by omega)).trans ((hu_ne (by omega)).trans ((hf5 (n) (by omega)).trans ((hu_ne (by omega)).trans ((hu_ne (by omega)).trans ((hf2 (n) ).trans hw1_1))))))))) d_Mo_keep_64 ⟨⟨by decide, by decide⟩, ⟨by decide, by decide⟩⟩ (Nat.le_of_ble_eq_true rfl) (fun v9 M9 n9 hQ9 hn9 hd9 => ?_)
  obtain ⟨rfl, hf9, rfl⟩ := hQ9
  refine g_astoreN d_Mo_keep_67 (by decide) rfl ?_
  refine g_aload_n d_Mo_keep_69 rfl ?_
  refine g_aloadN d_Mo_keep_70 rfl ?_
  refine g_ifnonnullN d_Mo_keep_72 ?_
  refine g_iconst d_Mo_keep_75 ?_
  refine g_anewA (k := 0) d_Mo_keep_76 w_817 w_818 (by decide) (by decide) (by decide) ?_
  refine g_goto (tgt := 90) d_Mo_keep_79 (by decide) ?_
  refine g_put fa_Mo_191 d_Mo_keep_90 ((hu_ne (by omega)).trans ((hf9 (n + 5) ).trans ((hf8 (n + 5) (by omega)).trans ((hf7 (n + 5) ).trans ((hf6 (n + 5) (by omega)).trans (hu_same _ _ _)))))) (Nat.le_of_ble_eq_true rfl) rfl rfl rfl ?_
  refine g_aload_n d_Mo_keep_93 rfl ?_
  refine g_aload_n d_Mo_keep_94 rfl ?_
  refine g_get fa_Mo_191 d_Mo_keep_95 (hu_same _ _ _) rfl ?_
  refine g_alenN 5 rfl d_Mo_keep_98 ((hu_ne (by omega)).trans (hu_same _ _ _)) ?_
  refine g_anewA (k := 0) d_Mo_keep_99 w_817 w_818 (by decide) (by decide) (by decide) ?_
  refine g_put fa_Mo_195 d_Mo_keep_102 ((hu_ne (by omega)).trans (hu_same _ _ _)) (Nat.le_of_ble_eq_true rfl) rfl rfl rfl ?_
  refine g_iconst d_Mo_keep_105 ?_
  refine g_istore d_Mo_keep_106 (by decide) rfl ?_
  refine g_iload d_Mo_keep_108 rfl ?_
  refine g_aload_n d_Mo_keep_110 rfl ?_
  refine g_get fa_Mo_191 d_Mo_keep_111 (hu_same _ _ _) rfl ?_
  refine g_alenN 5 rfl d_Mo_keep_114 ((hu_ne (by omega)).trans ((hu_ne (by omega)).trans ((hu_ne (by omega)).trans (hu_same _ _ _)))) ?_
  refine g_icmp_ge (tgt := 145) d_Mo_keep_115 (by decide) (fun _ => ?_) (fun h10 => False.elim (by omega))
  refine g_aload_n d_Mo_keep_145 rfl ?_
  refine g_aload_n d_Mo_keep_146 rfl ?_
  refine g_callS1 (ν := k_Mo_etagOf0) ⟨w_910, w_35, w_912, by decide, by decide, by decide +kernel⟩ w_911 (c_Mo_etagOf0 Γ (n) (n + 4) (n + 1) (n + 2) (n + 3) (by omega) ((hu_ne (by omega)).trans ((hu_ne (by omega)).trans ((hu_ne (by omega)).trans ((hu_ne (by omega)).trans ((hf9 (n) ).trans ((hf8 (n) (by omega)).trans ((hf7 (n) ).trans ((hf6 (n) (by omega)).trans ((hu_ne (by omega)).trans ((hf5 (n) (by omega)).trans ((hu_ne (by omega)).trans ((hu_ne (by omega)).trans ((hf2 (n) ).trans hw1_1)))))))))))))) d_Mo_keep_147 ⟨⟨by decide, by decide⟩, ⟨by decide, by decide⟩⟩ (Nat.le_of_ble_eq_true rfl) (fun v11 M11 n11 hQ11 hn11 hd11 => ?_)
  obtain ⟨rfl, hf11, rfl⟩ := hQ11
  refine g_put fa_Mo_242 d_Mo_keep_150 ((hf11 (n + 5) (by omega)).trans (hu_same _ _ _)) (Nat.le_of_ble_eq_true rfl) rfl rfl rfl ?_
  refine g_aload_n d_Mo_keep_153 rfl ?_
  refine g_aload_n d_Mo_keep_154 rfl ?_
  refine g_aloadN d_Mo_keep_155 rfl ?_
  refine g_callV2 (ν := k_Mo_setWords0) ⟨w_914, w_35, w_917, by decide, by decide, by decide +kernel⟩ w_916 w_23 (c_Mo_setWords0 Γ (r) (n + 5) (path) ((-2)) ((-2)) (0) (0) (0) (0) (0) (0) (n + 8) (n + 9) (by omega) (hu_same _ _ _)) d_Mo_keep_157 ((hu_ne (by omega)).trans ((hf11 (r) (by omega)).trans ((hu_ne (by omega)).trans ((hu_ne (by omega)).trans ((hu_ne (by omega)).trans ((hu_ne (by omega)).trans ((hf9 (r) ).trans ((hf8 (r) (by omega)).trans ((hf7 (r) ).trans ((hf6 (r) (by omega)).trans ((hu_ne (by omega)).trans ((hf5 (r) (by omega)).trans ((hu_ne (by omega)).trans (hu_same _ _ _)))))))))))))) rfl rfl ⟨⟨by decide, by decide⟩, ⟨by decide, by decide⟩⟩ (Nat.le_of_ble_eq_true rfl) (fun v12 M12 n12 hQ12 hn12 hd12 => ?_)
  obtain ⟨rfl, hf12, rfl, hw12_0⟩ := hQ12
  refine g_aload_n d_Mo_keep_160 rfl ?_
  refine g_aload_n d_Mo_keep_161 rfl ?_
  refine g_aload_n d_Mo_keep_162 rfl ?_
  refine g_callV2 (ν := k_Mo_setTimes0) ⟨w_923, w_35, w_926, by decide, by decide, by decide +kernel⟩ w_925 w_24 (c_Mo_setTimes0 Γ (r) ((-1)) (tm) (0) (ev) (rq) (n + 5) (n) (path) (0) (0) (0) (0) (0) (0) (n + 8) (n + 9) (n + 4) (n + 1) (n + 2) (n + 3) (by omega) (by omega) (by omega) (by omega) (by omega) ((hf12 (r) (by omega) (by omega) (by omega) (by omega) (by omega) (by omega)).trans ((hu_ne (by omega)).trans ((hf11 (r) (by omega)).trans ((hu_ne (by omega)).trans ((hu_ne (by omega)).trans ((hu_ne (by omega)).trans ((hu_ne (by omega)).trans ((hf9 (r) ).trans ((hf8 (r) (by omega)).trans ((hf7 (r) ).trans ((hf6 (r) (by omega)).trans ((hu_ne (by omega)).trans ((hf5 (r) (by omega)).trans ((hu_ne (by omega)).trans (hu_same _ _ _))))))))))))))) hw12_0 ((hf12 (n) (by omega) (by omega) (by omega) (by omega) (by omega) (by omega)).trans ((hu_ne (by omega)).trans ((hf11 (n) (by omega)).trans ((hu_ne (by omega)).trans ((hu_ne (by omega)).trans ((hu_ne (by omega)).trans ((hu_ne (by omega)).trans ((hf9 (n) ).trans ((hf8 (n) (by omega)).trans ((hf7 (n) ).trans ((hf6 (n) (by omega)).trans ((hu_ne (by omega)).trans ((hf5 (n) (by omega)).trans ((hu_ne (by omega)).trans ((hu_ne (by omega)).trans ((hf2 (n) ).trans hw1_1))))))))))))))))) d_Mo_keep_163 ((hf12 (r) (by omega) (by omega) (by omega) (by omega) (by omega) (by omega)).trans ((hu_ne (by omega)).trans ((hf11 (r) (by omega)).trans ((hu_ne (by omega)).trans ((hu_ne (by omega)).trans ((hu_ne (by omega)).trans ((hu_ne (by omega)).trans ((hf9 (r) ).trans ((hf8 (r) (by omega)).trans ((hf7 (r) ).trans ((hf6 (r) (by omega)).trans ((hu_ne (by omega)).trans ((hf5 (r) (by omega)).trans ((hu_ne (by omega)).trans (hu_same _ _ _))))))))))))))) rfl rfl ⟨⟨by decide, by decide⟩, ⟨by decide, by decide⟩⟩ (Nat.le_of_ble_eq_true rfl) (fun v13 M13 n13 hQ13 hn13 hd13 => ?_)
  obtain ⟨rfl, hf13, rfl, hw13_0⟩ := hQ13
  refine g_aload_n d_Mo_keep_166 rfl ?_
  refine g_aload_n d_Mo_keep_167 rfl ?_
  refine g_callV1 (ν := k_Mo_placeOf0) ⟨w_933, w_35, w_936, by decide, by decide, by decide +kernel⟩ w_935 w_25 (c_Mo_placeOf0 Γ (r) ((-1)) (tm) (0) (ev) (rq) (n + 5)  ((hf13 (r) (by omega) (by omega) (by omega) (by omega)).trans ((hf12 (r) (by omega) (by omega) (by omega) (by omega) (by omega) (by omega)).trans ((hu_ne (by omega)).trans ((hf11 (r) (by omega)).trans ((hu_ne (by omega)).trans ((hu_ne (by omega)).trans ((hu_ne (by omega)).trans ((hu_ne (by omega)).trans ((hf9 (r) ).trans ((hf8 (r) (by omega)).trans ((hf7 (r) ).trans ((hf6 (r) (by omega)).trans ((hu_ne (by omega)).trans ((hf5 (r) (by omega)).trans ((hu_ne (by omega)).trans (hu_same _ _ _))))))))))))))))) d_Mo_keep_168 ((hf13 (r) (by omega) (by omega) (by omega) (by omega)).trans ((hf12 (r) (by omega) (by omega) (by omega) (by omega) (by omega) (by omega)).trans ((hu_ne (by omega)).trans ((hf11 (r) (by omega)).trans ((hu_ne (by omega)).trans ((hu_ne (by omega)).trans ((hu_ne (by omega)).trans ((hu_ne (by omega)).trans ((hf9 (r) ).trans ((hf8 (r) (by omega)).trans ((hf7 (r) ).trans ((hf6 (r) (by omega)).trans ((hu_ne (by omega)).trans ((hf5 (r) (by omega)).trans ((hu_ne (by omega)).trans (hu_same _ _ _)))))))))))))))) rfl rfl ⟨⟨by decide, by decide⟩, ⟨by decide, by decide⟩⟩ (Nat.le_of_ble_eq_true rfl) (fun v14 M14 n14 hQ14 hn14 hd14 => ?_)
  obtain ⟨rfl, hf14, rfl⟩ := hQ14
  refine g_istore d_Mo_keep_171 (by decide) rfl ?_
  refine g_iload d_Mo_keep_173 rfl ?_
  refine g_iconst d_Mo_keep_175 ?_
  refine g_icmp_eq (tgt := 185) d_Mo_keep_176 (by decide) (fun _ => ?_) (fun h15 => False.elim (by omega))
  refine g_aloadN d_Mo_keep_185 rfl ?_
  refine g_ldcL w_941 d_Mo_keep_187 ?_
  refine g_lconst d_Mo_keep_190 rfl ?_
  refine g_callS3 (ν := k_Mo_has0) ⟨w_830, w_35, w_832, by decide, by decide, by decide +kernel⟩ w_831 (c_Mo_has0 Γ (7957629040484905573) (Int64.ofNat 0)  ) d_Mo_keep_191 ⟨⟨by decide, by decide⟩, ⟨by decide, by decide⟩⟩ (Nat.le_of_ble_eq_true rfl) (fun v16 M16 n16 hQ16 hn16 hd16 => ?_)
  obtain ⟨rfl, hf16, rfl⟩ := hQ16
  refine g_if_ne (tgt := 257) d_Mo_keep_194 (by decide) (fun h17 => False.elim (by omega)) (fun _ => ?_)
  refine g_aloadN d_Mo_keep_197 rfl ?_
  refine g_ldcL w_942 d_Mo_keep_199 ?_
  refine g_lconst d_Mo_keep_202 rfl ?_
  refine g_callS3 (ν := k_Mo_has0) ⟨w_830, w_35, w_832, by decide, by decide, by decide +kernel⟩ w_831 (c_Mo_has0 Γ (31650994674824293) (Int64.ofNat 0)  ) d_Mo_keep_203 ⟨⟨by decide, by decide⟩, ⟨by decide, by decide⟩⟩ (Nat.le_of_ble_eq_true rfl) (fun v18 M18 n18 hQ18 hn18 hd18 => ?_)
  obtain ⟨rfl, hf18, rfl⟩ := hQ18
  refine g_if_ne (tgt := 257) d_Mo_keep_206 (by decide) (fun h19 => False.elim (by omega)) (fun _ => ?_)
  refine g_aload_n d_Mo_keep_209 rfl ?_
  refine g_get fa_Mo_191 d_Mo_keep_210 ((hf18 (n + 5) (by omega)).trans ((hf16 (n + 5) (by omega)).trans ((hf14 (n + 5) ).trans hw13_0))) rfl ?_
  refine g_callS1 (ν := k_Mo_hasStar0) ⟨w_943, w_35, w_945, by decide, by decide, by decide +kernel⟩ w_944 (c_Mo_hasStar0 Γ (n + 8)  ((hf18 ((n + 8)) (by omega)).trans ((hf16 ((n + 8)) (by omega)).trans ((hf14 ((n + 8)) ).trans ((hf13 ((n + 8)) (by omega) (by omega) (by omega) (by omega)).trans ((hf12 ((n + 8)) (by omega) (by omega) (by omega) (by omega) (by omega) (by omega)).trans ((hu_ne (by omega)).trans ((hf11 ((n + 8)) (by omega)).trans ((hu_ne (by omega)).trans ((hu_ne (by omega)).trans ((hu_ne (by omega)).trans (hu_same _ _ _)))))))))))) d_Mo_keep_213 ⟨⟨by decide, by decide⟩, ⟨by decide, by decide⟩⟩ (Nat.le_of_ble_eq_true rfl) (fun v20 M20 n20 hQ20 hn20 hd20 => ?_)
  obtain ⟨rfl, hf20, rfl⟩ := hQ20
  refine g_if_ne (tgt := 257) d_Mo_keep_216 (by decide) (fun h21 => False.elim (by omega)) (fun _ => ?_)
  refine g_aload_n d_Mo_keep_219 rfl ?_
  refine g_get fa_Mo_22 d_Mo_keep_220 ((hf20 (r) ).trans ((hf18 (r) (by omega)).trans ((hf16 (r) (by omega)).trans ((hf14 (r) ).trans ((hf13 (r) (by omega) (by omega) (by omega) (by omega)).trans ((hf12 (r) (by omega) (by omega) (by omega) (by omega) (by omega) (by omega)).trans ((hu_ne (by omega)).trans ((hf11 (r) (by omega)).trans ((hu_ne (by omega)).trans ((hu_ne (by omega)).trans ((hu_ne (by omega)).trans ((hu_ne (by omega)).trans ((hf9 (r) ).trans ((hf8 (r) (by omega)).trans ((hf7 (r) ).trans ((hf6 (r) (by omega)).trans ((hu_ne (by omega)).trans ((hf5 (r) (by omega)).trans ((hu_ne (by omega)).trans (hu_same _ _ _)))))))))))))))))))) rfl ?_
  refine g_callS0 (ν := k_Mo_cacheControl) ⟨w_787, w_35, w_789, by decide, by decide, by decide +kernel⟩ w_788 (c_Mo_cacheControl Γ   ) d_Mo_keep_223 ⟨⟨by decide, by decide⟩, ⟨by decide, by decide⟩⟩ (Nat.le_of_ble_eq_true rfl) (fun v22 M22 n22 hQ22 hn22 hd22 => ?_)
  obtain ⟨rfl, hf22, kn22x0, fn22x1, rfl, hb22_kn22x0_0, hw22_0⟩ := hQ22
  refine g_callS2 (ν := k_Mo_valueOf0) ⟨w_795, w_35, w_797, by decide, by decide, by decide +kernel⟩ w_796 (c_Mo_valueOf0 Γ (rq) (n + 21) (x0) (x1) (x2) (x3)  ((hf22 (rq) (by omega)).trans ((hf20 (rq) ).trans ((hf18 (rq) (by omega)).trans ((hf16 (rq) (by omega)).trans ((hf14 (rq) ).trans ((hf13 (rq) (by omega) (by omega) (by omega) (by omega)).trans ((hf12 (rq) (by omega) (by omega) (by omega) (by omega) (by omega) (by omega)).trans ((hu_ne (by omega)).trans ((hf11 (rq) (by omega)).trans ((hu_ne (by omega)).trans ((hu_ne (by omega)).trans ((hu_ne (by omega)).trans ((hu_ne (by omega)).trans ((hf9 (rq) ).trans ((hf8 (rq) (by omega)).trans ((hf7 (rq) ).trans ((hf6 (rq) (by omega)).trans ((hu_ne (by omega)).trans ((hf5 (rq) (by omega)).trans ((hu_ne (by omega)).trans ((hu_ne (by omega)).trans ((hf2 (rq) ).trans ((hf1 (rq) (by omega) (by omega) (by omega) (by omega) (by omega) (by omega)).trans p1)))))))))))))))))))))))) d_Mo_keep_226 ⟨⟨by decide, by decide⟩, ⟨by decide, by decide⟩⟩ (Nat.le_of_ble_eq_true rfl) (fun v23 M23 n23 hQ23 hn23 hd23 => ?_)
  obtain ⟨rfl, hf23, rfl⟩ := hQ23
  refine g_ldcL w_941 d_Mo_keep_229 ?_
  refine g_lconst d_Mo_keep_232 rfl ?_
  refine g_callS3 (ν := k_Mo_has0) ⟨w_830, w_35, w_832, by decide, by decide, by decide +kernel⟩ w_831 (c_Mo_has0 Γ (7957629040484905573) (Int64.ofNat 0)  ) d_Mo_keep_233 ⟨⟨by decide, by decide⟩, ⟨by decide, by decide⟩⟩ (Nat.le_of_ble_eq_true rfl) (fun v24 M24 n24 hQ24 hn24 hd24 => ?_)
  obtain ⟨rfl, hf24, rfl⟩ := hQ24
  refine g_if_ne (tgt := 257) d_Mo_keep_236 (by decide) (fun h25 => False.elim (by omega)) (fun _ => ?_)
  refine g_aload_n d_Mo_keep_239 rfl ?_
  refine g_get fa_Mo_158 d_Mo_keep_240 ((hf24 (n + 5) (by omega)).trans ((hf23 (n + 5) ).trans ((hf22 (n + 5) (by omega)).trans ((hf20 (n + 5) ).trans ((hf18 (n + 5) (by omega)).trans ((hf16 (n + 5) (by omega)).trans ((hf14 (n + 5) ).trans hw13_0))))))) rfl ?_
  refine g_if_gt (tgt := 253) d_Mo_keep_243 (by decide) (fun h26 => False.elim (by omega)) (fun _ => ?_)
  refine g_aload_n d_Mo_keep_246 rfl ?_
  refine g_get fa_Mo_242 d_Mo_keep_247 ((hf24 (n + 5) (by omega)).trans ((hf23 (n + 5) ).trans ((hf22 (n + 5) (by omega)).trans ((hf20 (n + 5) ).trans ((hf18 (n + 5) (by omega)).trans ((hf16 (n + 5) (by omega)).trans ((hf14 (n + 5) ).trans hw13_0))))))) rfl ?_
  refine g_ifnullN (tgt := 257) d_Mo_keep_250 (by decide) ?_
  refine g_iconst d_Mo_keep_257 ?_
  refine g_istore d_Mo_keep_258 (by decide) rfl ?_
  refine g_iload d_Mo_keep_260 rfl ?_
  refine g_if_ne (tgt := 267) d_Mo_keep_262 (by decide) (fun h27 => False.elim (by omega)) (fun _ => ?_)
  refine g_iconst d_Mo_keep_265 ?_
  refine g_zret (ty := .boolean) (by first | rfl | decide) d_Mo_keep_266 rfl ?_ (by decide) (by decide)
  exact ⟨rfl, fun q e0 e1 e2 e3 e4 e5 e6 e7 e8 e9 e10 e11 e12 e13 e14 e15 e16 e17 e18 e19 e20 e21 e22 e23 => ((hf24 q (by omega)).trans ((hf23 q ).trans ((hf22 q (by omega)).trans ((hf20 q ).trans ((hf18 q (by omega)).trans ((hf16 q (by omega)).trans ((hf14 q ).trans ((hf13 q (by omega) (by omega) (by omega) (by omega)).trans ((hf12 q (by omega) (by omega) (by omega) (by omega) (by omega) (by omega)).trans ((hu_ne (by omega)).trans ((hf11 q (by omega)).trans ((hu_ne (by omega)).trans ((hu_ne (by omega)).trans ((hu_ne (by omega)).trans ((hu_ne (by omega)).trans ((hf9 q ).trans ((hf8 q (by omega)).trans ((hf7 q ).trans ((hf6 q (by omega)).trans ((hu_ne (by omega)).trans ((hf5 q (by omega)).trans ((hu_ne (by omega)).trans ((hu_ne (by omega)).trans ((hf2 q ).trans ((hf1 q (by omega) (by omega) (by omega) (by omega) (by omega) (by omega)).trans rfl))))))))))))))))))))))))), rfl, ((hf24 (r) (by omega)).trans ((hf23 (r) ).trans ((hf22 (r) (by omega)).trans ((hf20 (r) ).trans ((hf18 (r) (by omega)).trans ((hf16 (r) (by omega)).trans ((hf14 (r) ).trans ((hf13 (r) (by omega) (by omega) (by omega) (by omega)).trans ((hf12 (r) (by omega) (by omega) (by omega) (by omega) (by omega) (by omega)).trans ((hu_ne (by omega)).trans ((hf11 (r) (by omega)).trans ((hu_ne (by omega)).trans ((hu_ne (by omega)).trans ((hu_ne (by omega)).trans ((hu_ne (by omega)).trans ((hf9 (r) ).trans ((hf8 (r) (by omega)).trans ((hf7 (r) ).trans ((hf6 (r) (by omega)).trans ((hu_ne (by omega)).trans ((hf5 (r) (by omega)).trans ((hu_ne (by omega)).trans (hu_same _ _ _))))))))))))))))))))))), ((hf24 (n) (by omega)).trans ((hf23 (n) ).trans ((hf22 (n) (by omega)).trans ((hf20 (n) ).trans ((hf18 (n) (by omega)).trans ((hf16 (n) (by omega)).trans ((hf14 (n) ).trans ((hf13 (n) (by omega) (by omega) (by omega) (by omega)).trans ((hf12 (n) (by omega) (by omega) (by omega) (by omega) (by omega) (by omega)).trans ((hu_ne (by omega)).trans ((hf11 (n) (by omega)).trans ((hu_ne (by omega)).trans ((hu_ne (by omega)).trans ((hu_ne (by omega)).trans ((hu_ne (by omega)).trans ((hf9 (n) ).trans ((hf8 (n) (by omega)).trans ((hf7 (n) ).trans ((hf6 (n) (by omega)).trans ((hu_ne (by omega)).trans ((hf5 (n) (by omega)).trans ((hu_ne (by omega)).trans ((hu_ne (by omega)).trans ((hf2 (n) ).trans hw1_1)))))))))))))))))))))))), ((hf24 (n + 1) (by omega)).trans ((hf23 (n + 1) ).trans ((hf22 (n + 1) (by omega)).trans ((hf20 (n + 1) ).trans ((hf18 (n + 1) (by omega)).trans ((hf16 (n + 1) (by omega)).trans ((hf14 (n + 1) ).trans ((hf13 (n + 1) (by omega) (by omega) (by omega) (by omega)).trans ((hf12 (n + 1) (by omega) (by omega) (by omega) (by omega) (by omega) (by omega)).trans ((hu_ne (by omega)).trans ((hf11 (n + 1) (by omega)).trans ((hu_ne (by omega)).trans ((hu_ne (by omega)).trans ((hu_ne (by omega)).trans ((hu_ne (by omega)).trans ((hf9 (n + 1) ).trans ((hf8 (n + 1) (by omega)).trans ((hf7 (n + 1) ).trans ((hf6 (n + 1) (by omega)).trans ((hu_ne (by omega)).trans ((hf5 (n + 1) (by omega)).trans ((hu_ne (by omega)).trans ((hu_ne (by omega)).trans ((hf2 (n + 1) ).trans hw1_2)))))))))))))))))))))))), ((hf24 (n + 2) (by omega)).trans ((hf23 (n + 2) ).trans ((hf22 (n + 2) (by omega)).trans ((hf20 (n + 2) ).trans ((hf18 (n + 2) (by omega)).trans ((hf16 (n + 2) (by omega)).trans ((hf14 (n + 2) ).trans ((hf13 (n + 2) (by omega) (by omega) (by omega) (by omega)).trans ((hf12 (n + 2) (by omega) (by omega) (by omega) (by omega) (by omega) (by omega)).trans ((hu_ne (by omega)).trans ((hf11 (n + 2) (by omega)).trans ((hu_ne (by omega)).trans ((hu_ne (by omega)).trans ((hu_ne (by omega)).trans ((hu_ne (by omega)).trans ((hf9 (n + 2) ).trans ((hf8 (n + 2) (by omega)).trans ((hf7 (n + 2) ).trans ((hf6 (n + 2) (by omega)).trans ((hu_ne (by omega)).trans ((hf5 (n + 2) (by omega)).trans ((hu_ne (by omega)).trans ((hu_ne (by omega)).trans ((hf2 (n + 2) ).trans hw1_3)))))))))))))))))))))))), ((hf24 (n + 3) (by omega)).trans ((hf23 (n + 3) ).trans ((hf22 (n + 3) (by omega)).trans ((hf20 (n + 3) ).trans ((hf18 (n + 3) (by omega)).trans ((hf16 (n + 3) (by omega)).trans ((hf14 (n + 3) ).trans ((hf13 (n + 3) (by omega) (by omega) (by omega) (by omega)).trans ((hf12 (n + 3) (by omega) (by omega) (by omega) (by omega) (by omega) (by omega)).trans ((hu_ne (by omega)).trans ((hf11 (n + 3) (by omega)).trans ((hu_ne (by omega)).trans ((hu_ne (by omega)).trans ((hu_ne (by omega)).trans ((hu_ne (by omega)).trans ((hf9 (n + 3) ).trans ((hf8 (n + 3) (by omega)).trans ((hf7 (n + 3) ).trans ((hf6 (n + 3) (by omega)).trans ((hu_ne (by omega)).trans ((hf5 (n + 3) (by omega)).trans ((hu_ne (by omega)).trans ((hu_ne (by omega)).trans ((hf2 (n + 3) ).trans hw1_4)))))))))))))))))))))))), ((hf24 (n + 4) (by omega)).trans ((hf23 (n + 4) ).trans ((hf22 (n + 4) (by omega)).trans ((hf20 (n + 4) ).trans ((hf18 (n + 4) (by omega)).trans ((hf16 (n + 4) (by omega)).trans ((hf14 (n + 4) ).trans ((hf13 (n + 4) (by omega) (by omega) (by omega) (by omega)).trans ((hf12 (n + 4) (by omega) (by omega) (by omega) (by omega) (by omega) (by omega)).trans ((hu_ne (by omega)).trans ((hf11 (n + 4) (by omega)).trans ((hu_ne (by omega)).trans ((hu_ne (by omega)).trans ((hu_ne (by omega)).trans ((hu_ne (by omega)).trans ((hf9 (n + 4) ).trans ((hf8 (n + 4) (by omega)).trans ((hf7 (n + 4) ).trans ((hf6 (n + 4) (by omega)).trans ((hu_ne (by omega)).trans ((hf5 (n + 4) (by omega)).trans ((hu_ne (by omega)).trans ((hu_ne (by omega)).trans ((hf2 (n + 4) ).trans hw1_5)))))))))))))))))))))))), ((hf24 (n + 5) (by omega)).trans ((hf23 (n + 5) ).trans ((hf22 (n + 5) (by omega)).trans ((hf20 (n + 5) ).trans ((hf18 (n + 5) (by omega)).trans ((hf16 (n + 5) (by omega)).trans ((hf14 (n + 5) ).trans hw13_0))))))), ((hf24 (n + 8) (by omega)).trans ((hf23 (n + 8) ).trans ((hf22 (n + 8) (by omega)).trans ((hf20 (n + 8) ).trans ((hf18 (n + 8) (by omega)).trans ((hf16 (n + 8) (by omega)).trans ((hf14 (n + 8) ).trans ((hf13 (n + 8) (by omega) (by omega) (by omega) (by omega)).trans ((hf12 (n + 8) (by omega) (by omega) (by omega) (by omega) (by omega) (by omega)).trans ((hu_ne (by omega)).trans ((hf11 (n + 8) (by omega)).trans ((hu_ne (by omega)).trans ((hu_ne (by omega)).trans ((hu_ne (by omega)).trans (hu_same _ _ _))))))))))))))), ((hf24 (n + 9) (by omega)).trans ((hf23 (n + 9) ).trans ((hf22 (n + 9) (by omega)).trans ((hf20 (n + 9) ).trans ((hf18 (n + 9) (by omega)).trans ((hf16 (n + 9) (by omega)).trans ((hf14 (n + 9) ).trans ((hf13 (n + 9) (by omega) (by omega) (by omega) (by omega)).trans ((hf12 (n + 9) (by omega) (by omega) (by omega) (by omega) (by omega) (by omega)).trans ((hu_ne (by omega)).trans ((hf11 (n + 9) (by omega)).trans ((hu_ne (by omega)).trans (hu_same _ _ _)))))))))))))⟩
end
section
theorem d_Mo_pass_0 : decode b_Mo_pass 0 = .ok (.aload_n 0, 1) := by decide +kernel
theorem d_Mo_pass_1 : decode b_Mo_pass 1 = .ok (.iload_n 1, 1) := by decide +kernel
theorem d_Mo_pass_2 : decode b_Mo_pass 2 = .ok (.iconst 1, 1) := by decide +kernel
theorem d_Mo_pass_3 : decode b_Mo_pass 3 = .ok (.if_icmp .lt 22, 3) := by decide +kernel
theorem d_Mo_pass_6 : decode b_Mo_pass 6 = .ok (.iload_n 1, 1) := by decide +kernel
theorem d_Mo_pass_7 : decode b_Mo_pass 7 = .ok (.ldc_w 274, 3) := by decide +kernel
theorem d_Mo_pass_10 : decode b_Mo_pass 10 = .ok (.if_icmp .gt 15, 3) := by decide +kernel
theorem d_Mo_pass_13 : decode b_Mo_pass 13 = .ok (.aload_n 0, 1) := by decide +kernel
theorem d_Mo_pass_14 : decode b_Mo_pass 14 = .ok (.getfield 164, 3) := by decide +kernel
theorem d_Mo_pass_17 : decode b_Mo_pass 17 = .ok (.iload_n 1, 1) := by decide +kernel
theorem d_Mo_pass_18 : decode b_Mo_pass 18 = .ok (.iadd, 1) := by decide +kernel
theorem d_Mo_pass_19 : decode b_Mo_pass 19 = .ok (.ldc_w 275, 3) := by decide +kernel
theorem d_Mo_pass_22 : decode b_Mo_pass 22 = .ok (.if_icmp .le 7, 3) := by decide +kernel
theorem d_Mo_pass_29 : decode b_Mo_pass 29 = .ok (.iconst 0, 1) := by decide +kernel
theorem d_Mo_pass_30 : decode b_Mo_pass 30 = .ok (.putfield 32, 3) := by decide +kernel
theorem d_Mo_pass_33 : decode b_Mo_pass 33 = .ok (.aload_n 0, 1) := by decide +kernel
theorem d_Mo_pass_34 : decode b_Mo_pass 34 = .ok (.getfield 32, 3) := by decide +kernel
theorem d_Mo_pass_37 : decode b_Mo_pass 37 = .ok (.ifCond .eq 5, 3) := by decide +kernel
theorem d_Mo_pass_42 : decode b_Mo_pass 42 = .ok (.aload_n 0, 1) := by decide +kernel
theorem d_Mo_pass_43 : decode b_Mo_pass 43 = .ok (.dup, 1) := by decide +kernel
theorem d_Mo_pass_44 : decode b_Mo_pass 44 = .ok (.getfield 164, 3) := by decide +kernel
theorem d_Mo_pass_47 : decode b_Mo_pass 47 = .ok (.iload_n 1, 1) := by decide +kernel
theorem d_Mo_pass_48 : decode b_Mo_pass 48 = .ok (.iadd, 1) := by decide +kernel
theorem d_Mo_pass_49 : decode b_Mo_pass 49 = .ok (.putfield 164, 3) := by decide +kernel
theorem d_Mo_pass_52 : decode b_Mo_pass 52 = .ok (.aload_n 0, 1) := by decide +kernel
theorem d_Mo_pass_53 : decode b_Mo_pass 53 = .ok (.getfield 164, 3) := by decide +kernel
theorem d_Mo_pass_56 : decode b_Mo_pass 56 = .ok (.ireturn, 1) := by decide +kernel
theorem d_Mo_pass_25 : decode b_Mo_pass 25 = .ok (.iconst 1, 1) := by decide +kernel
theorem d_Mo_pass_26 : decode b_Mo_pass 26 = .ok (.goto 4, 3) := by decide +kernel
theorem d_Mo_pass_40 : decode b_Mo_pass 40 = .ok (.iconst 0, 1) := by decide +kernel
theorem d_Mo_pass_41 : decode b_Mo_pass 41 = .ok (.ireturn, 1) := by decide +kernel
set_option maxRecDepth 20000 in
theorem w_970 : Cond.constant "VaryStoreModel" 274 100000 ∈ TB := tb_in 970 (by decide +kernel) (by decide +kernel)
set_option maxRecDepth 20000 in
theorem w_971 : Cond.constant "VaryStoreModel" 275 1000000000 ∈ TB := tb_in 971 (by decide +kernel) (by decide +kernel)
theorem g_ldcIW {Γ : GE} {μ : MS} {A : Nat → Prop} {E : List Frame → Array Value → State → State → Prop} {ce sl : Nat} {M : HM} {n pc : Nat} {vs : List (Option Value)} {st : List Value} {is : Nat} {v : Int32} {z : Int} (hw : Cond.constant μ.1 is v ∈ TB) (hz : v = iI z) (hd : decode μ.2.1 pc = .ok (.ldc_w is, 3)) (k : G Γ μ A E ce sl M n (pc + 3) vs (.int (iI z) :: st)) : G Γ μ A E ce sl M n pc vs st := by
  intro p e s m args below meth c H locs ls CC h1 h2 h3 h4 h5
  obtain ⟨c1, c2, c3, c4, c5, c6, c7, c8, c9, c10, c11, c12, c13⟩ := id CC
  subst hz
  exact lv_ldcw c1 c2 c4 (c5 _ hw) hd (k p e s m args below meth c H locs ls CC h1 h2 h3 h4 h5)
def k_Mo_pass1 : MS := ("VaryStoreModel", b_Mo_pass, 2, (some .int), "pass", { frames := 0, cells := 0, slots := 0, locals := 0 }, [])
set_option maxRecDepth 100000 in
set_option maxHeartbeats 4000000 in
theorem c_Mo_pass1 (Γ : GE) (r : Nat) (fa : Int) (th : Int) (ev : Int64) (rq : Nat) (k : Int) {M : HM} {n : Nat} (ka : 1 ≤ k) (kb : k ≤ 100000) (p0 : M (r) = some (.inr (6, [.ref (r + 1), .int (iI (0)), .int (iI (fa)), .int (iI (0)), .int (iI (th)), .long (ev), .ref (rq), .ref (r + 7), .int (iI (0))]))) : CT Γ k_Mo_pass1 y_Mo_pass [.ref (r), .int (iI (k))] M (n) (fun v M' n' => n = n' ∧ (∀ q, q ≠ r → M' q = M q) ∧ v = some (.int (iI ((0 + k)))) ∧ M' (r) = some (.inr (6, [.ref (r + 1), .int (iI (0)), .int (iI (fa)), .int (iI ((0 + k))), .int (iI (0)), .long (ev), .ref (rq), .ref (r + 7), .int (iI (0))]))) := by
  refine CT.of (by decide) rfl rfl 0 rfl (Nat.le_of_ble_eq_true rfl) rfl ?_
  refine g_aload_n d_Mo_pass_0 rfl ?_
  refine g_iload_n d_Mo_pass_1 rfl ?_
  refine g_iconst d_Mo_pass_2 ?_
  refine g_icmp_lt (tgt := 25) d_Mo_pass_3 (by decide) (fun h1 => False.elim (by omega)) (fun h1 => ?_)
  refine g_iload_n d_Mo_pass_6 rfl ?_
  refine g_ldcIW (z := 100000) w_970 rfl d_Mo_pass_7 ?_
  refine g_icmp_gt (tgt := 25) d_Mo_pass_10 (by decide) (fun h2 => False.elim (by omega)) (fun h2 => ?_)
  refine g_aload_n d_Mo_pass_13 rfl ?_
  refine g_get fa_Mo_164 d_Mo_pass_14 p0 rfl ?_
  refine g_iload_n d_Mo_pass_17 rfl ?_
  refine g_iadd d_Mo_pass_18 ?_
  refine g_ldcIW (z := 1000000000) w_971 rfl d_Mo_pass_19 ?_
  refine g_icmp_le (tgt := 29) d_Mo_pass_22 (by decide) (fun h3 => ?_) (fun h3 => False.elim (by omega))
  refine g_iconst d_Mo_pass_29 ?_
  refine g_put fa_Mo_32 d_Mo_pass_30 p0 (Nat.le_of_ble_eq_true rfl) rfl rfl rfl ?_
  refine g_aload_n d_Mo_pass_33 rfl ?_
  refine g_get fa_Mo_32 d_Mo_pass_34 (hu_same _ _ _) rfl ?_
  refine g_if_eq (tgt := 42) d_Mo_pass_37 (by decide) (fun _ => ?_) (fun h4 => False.elim (by omega))
  refine g_aload_n d_Mo_pass_42 rfl ?_
  refine g_dup d_Mo_pass_43 rfl ?_
  refine g_get fa_Mo_164 d_Mo_pass_44 (hu_same _ _ _) rfl ?_
  refine g_iload_n d_Mo_pass_47 rfl ?_
  refine g_iadd d_Mo_pass_48 ?_
  refine g_put fa_Mo_164 d_Mo_pass_49 (hu_same _ _ _) (Nat.le_of_ble_eq_true rfl) rfl rfl rfl ?_
  refine g_aload_n d_Mo_pass_52 rfl ?_
  refine g_get fa_Mo_164 d_Mo_pass_53 (hu_same _ _ _) rfl ?_
  refine g_iret d_Mo_pass_56 rfl ?_ (by decide) (by decide)
  exact ⟨rfl, fun q e0 => ((hu_ne (by omega)).trans ((hu_ne (by omega)).trans rfl)), rfl, (hu_same _ _ _)⟩
def k_Mo_pass0 : MS := ("VaryStoreModel", b_Mo_pass, 2, (some .int), "pass", { frames := 0, cells := 0, slots := 0, locals := 0 }, [])
set_option maxRecDepth 100000 in
set_option maxHeartbeats 4000000 in
theorem c_Mo_pass0 (Γ : GE) (r : Nat) (fa : Int) (th : Int) (ev : Int64) (rq : Nat) (k : Int) {M : HM} {n : Nat} (ka : -2147483648 ≤ k) (kb : k < 2147483648) (kc : ¬ (1 ≤ k ∧ k ≤ 100000)) (p0 : M (r) = some (.inr (6, [.ref (r + 1), .int (iI (0)), .int (iI (fa)), .int (iI (0)), .int (iI (th)), .long (ev), .ref (rq), .ref (r + 7), .int (iI (0))]))) : CT Γ k_Mo_pass0 y_Mo_pass [.ref (r), .int (iI (k))] M (n) (fun v M' n' => n = n' ∧ (∀ q, q ≠ r → M' q = M q) ∧ v = some (.int (iI (0))) ∧ M' (r) = some (.inr (6, [.ref (r + 1), .int (iI (0)), .int (iI (fa)), .int (iI (0)), .int (iI (1)), .long (ev), .ref (rq), .ref (r + 7), .int (iI (0))]))) := by
  refine CT.of (by decide) rfl rfl 0 rfl (Nat.le_of_ble_eq_true rfl) rfl ?_
  refine g_aload_n d_Mo_pass_0 rfl ?_
  refine g_iload_n d_Mo_pass_1 rfl ?_
  refine g_iconst d_Mo_pass_2 ?_
  refine g_icmp_lt (tgt := 25) d_Mo_pass_3 (by decide) (fun h1 => ?_) (fun h1 => ?_)
  · skip
    refine g_iconst d_Mo_pass_25 ?_
    refine g_goto (tgt := 30) d_Mo_pass_26 (by decide) ?_
    refine g_put fa_Mo_32 d_Mo_pass_30 p0 (Nat.le_of_ble_eq_true rfl) rfl rfl rfl ?_
    refine g_aload_n d_Mo_pass_33 rfl ?_
    refine g_get fa_Mo_32 d_Mo_pass_34 (hu_same _ _ _) rfl ?_
    refine g_if_eq (tgt := 42) d_Mo_pass_37 (by decide) (fun h2 => False.elim (by omega)) (fun _ => ?_)
    refine g_iconst d_Mo_pass_40 ?_
    refine g_iret d_Mo_pass_41 rfl ?_ (by decide) (by decide)
    exact ⟨rfl, fun q e0 => ((hu_ne (by omega)).trans rfl), rfl, (hu_same _ _ _)⟩
  · skip
    refine g_iload_n d_Mo_pass_6 rfl ?_
    refine g_ldcIW (z := 100000) w_970 rfl d_Mo_pass_7 ?_
    refine g_icmp_gt (tgt := 25) d_Mo_pass_10 (by decide) (fun h3 => ?_) (fun h3 => False.elim (by omega))
    refine g_iconst d_Mo_pass_25 ?_
    refine g_goto (tgt := 30) d_Mo_pass_26 (by decide) ?_
    refine g_put fa_Mo_32 d_Mo_pass_30 p0 (Nat.le_of_ble_eq_true rfl) rfl rfl rfl ?_
    refine g_aload_n d_Mo_pass_33 rfl ?_
    refine g_get fa_Mo_32 d_Mo_pass_34 (hu_same _ _ _) rfl ?_
    refine g_if_eq (tgt := 42) d_Mo_pass_37 (by decide) (fun h4 => False.elim (by omega)) (fun _ => ?_)
    refine g_iconst d_Mo_pass_40 ?_
    refine g_iret d_Mo_pass_41 rfl ?_ (by decide) (by decide)
    exact ⟨rfl, fun q e0 => ((hu_ne (by omega)).trans rfl), rfl, (hu_same _ _ _)⟩
end
section
/-! ===== throw of an exception whose constructor passes on by another place of its pool (13): after the library's ctorThrowS and the kit's vx_throwS ===== -/
def nx6 : ByteArray := ⟨#[0x2a, 0x2b, 0xb7, 0x00, 0x0d, 0xb1]⟩
theorem nx6_0 : decode nx6 0 = .ok (.aload_n 0, 1) := by decide +kernel
theorem nx6_1 : decode nx6 1 = .ok (.aload_n 1, 1) := by decide +kernel
theorem nx6_2 : decode nx6 2 = .ok (.invokespecial 13, 3) := by decide +kernel
theorem nx6_5 : decode nx6 5 = .ok (.return_, 1) := by decide +kernel
def nxAtoms (own : String) (ic : Nat) (X : String) : List Cond :=
  Bundle.throwableAtoms ++ Bundle.throwableSAtoms ++ (Bundle.passSAtoms X "java/lang/RuntimeException" 13 nx6 ++ Bundle.chainSAtoms "java/lang/RuntimeException" ["java/lang/Exception"]) ++
  [.methodLink own ic (Bundle.initS X), .instantiable X 6, .castable X X, .selects X Bundle.tFill0 Bundle.tFill0, .selects X Bundle.tFill Bundle.tFill,
   .lays X Bundle.tN "cause" "Ljava/lang/Throwable;", .lays X Bundle.tN "stackTrace" Bundle.steD, .lays X Bundle.tN "suppressedExceptions" Bundle.listD, .lays X Bundle.tN "detailMessage" "Ljava/lang/String;",
   .isRef (.static Bundle.tN "UNASSIGNED_STACK" Bundle.steD), .isRef (.static Bundle.tN "SUPPRESSED_SENTINEL" Bundle.listD),
   .fieldLink Bundle.tN 198 Bundle.tN "backtrace" "Ljava/lang/Object;", .lays Bundle.tN Bundle.tN "backtrace" "Ljava/lang/Object;", .lays X Bundle.tN "backtrace" "Ljava/lang/Object;"]
section NX
variable {p : Program} {l : Launch} {e : Env} {R : Room} {s : State} {m₀ : MethodId} {args : Array Value} {below : List Frame} {meth : Method} {c : Code} {W9 : State} {locs : List Loc} {cells slots : Nat}
set_option maxHeartbeats 1000000 in
theorem nx_ctor (X : Stand p l e R s m₀ args below meth c W9 locs cells slots) (hexec : p.tables.exec = Jvm.exec) (htr : e.platform.stackTraces = false) {own cn : String} {ic : Nat}
    (hown : s.vm.findClass own = some m₀.cls) (hcls : Bundle.fit cn = true)
    (h : ∀ a ∈ nxAtoms own ic cn, a.before args s = true)
    (hlocs : ∀ x ∈ locs, ∀ cell, s.heap[x.base]? = some cell → cell.vm.isStatics = false)
    {a : Addr} {cX : ClassId} {kX : Class} (hfoundX : s.vm.findClass cn = some cX) (hkX : s.vm.classes[cX]? = some kX) (hcell : W9.heap[a]? = some (freshCell cX kX)) (hnew : s.heap.size ≤ a)
    {msg : Value} (hmsg : msg.isRef = true)
    {g : JFrame} (hg : g.method = m₀) (hsize : g.locals.size = c.maxLocals) (hlocked : g.locked = none) (hentered : g.entered = []) {rest : List Value} (hstack : g.stack = msg :: .ref a :: .ref a :: rest)
    (hd6 : decode c.code g.pc = .ok (.invokespecial ic, 3)) (hd9 : decode c.code (g.pc + 3) = .ok (.athrow, 1)) (hout : ∀ x ∈ c.exceptionTable.toList, covers x (g.pc + 3) = false)
    (hRframes : 2 + 3 < R.frames) (hRlocals : 2 * g.monitorRoom + ((Value.ref a :: rest).map fun v => v.category).sum + (13 * (2 + 1) + 42) ≤ R.locals) (hlocks : meth.locks = false) :
    ∃ U : State, Steps p.tables e below (W9.setTop g) U ∧ U.status = .running ∧ Ended U below (.threw a) ∧ s.WarmedH U.vm ∧ s.sameButNew ({ U with vm := s.vm } : State) locs cells slots ∧
      ∃ ce, U.heap[a]? = some ce ∧ ce.vm = .none ∧ s.vm.findClass cn = some ce.cls := by
  have howns : e.platform.frameOwnsMonitors = true := by rw [X.admits.platform]
  have hfin : e.platform.finalization = false := by rw [X.admits.platform]
  have hpl : e.platform.magicAccessors = ({} : Platform).magicAccessors := by rw [X.admits.platform]
  have a' : ∀ x, x ∈ nxAtoms own ic cn → x.holds args s none s [] = true := fun x hx => h x hx
  obtain ⟨T, Z0, L, -, Y⟩ := ThrowableC.of_atoms (args := args) howns hfin hpl (fun x hx => h x (by simp [nxAtoms, hx]))
  obtain ⟨Z, M, LZ, LM, hnZ⟩ := Init0T.ofS_atoms (args := args) hpl L Y (fun x hx => h x (by simp [nxAtoms, hx]))
  obtain ⟨P1, L1, hP1m, hs1⟩ := PassC.ofS_atoms (args := args) (s := s) hpl (X := cn) (Y := "java/lang/RuntimeException") (Bundle.fit_spec hcls).1 (by decide) nx6_0 nx6_1 nx6_2 nx6_5 (fun x hx => h x (by simp only [nxAtoms, List.mem_append]; exact Or.inl (Or.inr (Or.inl hx))))
  obtain ⟨P2, Ps2, hlen2, L2, hL2, hP2m, hl2, hl2'⟩ := Bundle.chainS (args := args) hpl hnZ ["java/lang/Exception"] "java/lang/RuntimeException" (by decide +kernel) (by decide +kernel) (fun x hx => h x (by simp only [nxAtoms, List.mem_append]; exact Or.inl (Or.inr (Or.inr hx))))
  have hlink1 : P1.sup = firstOf (Z.m T.toThrowableT) ((P2 :: Ps2).map (·.toPassT)) := Option.some.inj (hs1.symm.trans hP2m)
  have hlink : PassesOn (Z.m T.toThrowableT) ((P2 :: Ps2).map (·.toPassT)) := ⟨hl2, hl2'⟩
  have hfound : s.vm.findClass cn = some P1.m.cls := findClass_of_methodNamed hP1m
  cases Option.some.inj (hfoundX.symm.trans hfound)
  obtain ⟨c1, kX', hc1, hk, hord, -, -, hn6⟩ := Cond.instantiable_spec (a' (.instantiable cn 6) (by simp [nxAtoms]))
  cases Option.some.inj (hc1.symm.trans hfound)
  cases Option.some.inj (hkX.symm.trans hk)
  have hsel0 : selectMethod e.platform s.vm P1.m.cls T.fill0 = .method T.fill0 := by
    obtain ⟨c2, r2, m2, q1, q2, q3, q4, -⟩ := Cond.selects_spec (a' (.selects cn Bundle.tFill0 Bundle.tFill0) (by simp [nxAtoms]))
    cases Option.some.inj (q1.symm.trans hfound)
    cases Option.some.inj (q2.symm.trans (State.methodFound?_of_named Y.fill0 (by decide)))
    cases Option.some.inj (q3.symm.trans Y.fill0)
    rw [Launch.admits_selectMethod X.admits]; exact q4
  have hselF : selectMethod e.platform s.vm P1.m.cls T.fill = .method T.fill := by
    obtain ⟨c2, r2, m2, q1, q2, q3, q4, -⟩ := Cond.selects_spec (a' (.selects cn Bundle.tFill Bundle.tFill) (by simp [nxAtoms]))
    cases Option.some.inj (q1.symm.trans hfound)
    cases Option.some.inj (q2.symm.trans (State.methodFound?_of_named Y.fill (by decide)))
    cases Option.some.inj (q3.symm.trans Y.fill)
    rw [Launch.admits_selectMethod X.admits]; exact q4
  obtain ⟨cellS0, hcS0, hiss⟩ := Y.statics
  obtain ⟨u0, hu0⟩ := Cond.staticRefV Y.unassigned L.unassignedStatic L.statics hcS0 hiss (a' (.isRef (.static Bundle.tN "UNASSIGNED_STACK" Bundle.steD)) (by simp [nxAtoms]))
  obtain ⟨sen, hsen⟩ := Cond.staticRefV Y.sentinel L.sentinelStatic L.statics hcS0 hiss (a' (.isRef (.static Bundle.tN "SUPPRESSED_SENTINEL" Bundle.listD)) (by simp [nxAtoms]))
  obtain ⟨ci198, i198, fB, hk198, hg198, ha198, hsB, -, hnB, htB, hffB⟩ := Cond.ownField (t := .object "java/lang/Object") Y.found L.cls (by decide +kernel) (a' (.fieldLink Bundle.tN 198 Bundle.tN "backtrace" "Ljava/lang/Object;") (by simp [nxAtoms])) (a' (.lays Bundle.tN Bundle.tN "backtrace" "Ljava/lang/Object;") (by simp [nxAtoms])) e.platform hpl
  obtain ⟨cellS, hcS', heS, -, hkeep⟩ := X.same.2.2.2.2.2 T.aS cellS0 hcS0
  have hcellS : W9.heap[T.aS]? = some cellS := hcS'
  have hout' : ∀ i, (⟨T.aS, i⟩ : Loc) ∉ locs := fun i hmem => by
    have := hlocs _ hmem cellS0 hcS0
    rw [hiss] at this; cases this
  have hknownS : cellS.vm ≠ .unknown := by
    rw [heS]; intro hu
    rw [show cellS0.vm = .unknown from hu] at hiss
    cases hiss
  have hneS : T.aS ≠ a := Nat.ne_of_lt (Nat.lt_of_lt_of_le (Array.getElem?_eq_some_iff.mp hcS0).1 hnew)
  obtain ⟨iM, hffM⟩ := Y.msg
  obtain ⟨tyC, dC, hdC, hdnC⟩ := Cond.laysAt hfound hk Y.cause (a' (.lays cn Bundle.tN "cause" "Ljava/lang/Throwable;") (by simp [nxAtoms]))
  obtain ⟨tyS, dS, hdS, hdnS⟩ := Cond.laysAt hfound hk Y.stack (a' (.lays cn Bundle.tN "stackTrace" Bundle.steD) (by simp [nxAtoms]))
  obtain ⟨tyP, dP, hdP, hdnP⟩ := Cond.laysAt hfound hk Y.supp (a' (.lays cn Bundle.tN "suppressedExceptions" Bundle.listD) (by simp [nxAtoms]))
  obtain ⟨tyM, dM, hdM, hdnM⟩ := Cond.laysAt hfound hk hffM (a' (.lays cn Bundle.tN "detailMessage" "Ljava/lang/String;") (by simp [nxAtoms]))
  obtain ⟨tyB, dB, hdB, hdnB⟩ := Cond.laysAt hfound hk hffB (a' (.lays cn Bundle.tN "backtrace" "Ljava/lang/Object;") (by simp [nxAtoms]))
  have bC := Cond.laysApart hdB hdC hdnB hdnC (by rw [hnB, Y.causeName]; decide)
  have bS := Cond.laysApart hdB hdS hdnB hdnS (by rw [hnB, Y.stackName]; decide)
  have bP := Cond.laysApart hdB hdP hdnB hdnP (by rw [hnB, Y.suppName]; decide)
  have hskip : SkipFacts T e.platform s (fun u => u) u0 ((preparedCellV T.toThrowableT (freshCell P1.m.cls kX) a u0 sen).withEntry W9.cur) :=
    ⟨{ ci198 := ci198, i198 := i198, fBack := fB }, ⟨hk198, hg198, ha198, hsB⟩, by
      have := fresh_default (c := P1.m.cls) tyB
      rw [htB] at this
      simpa [preparedCellV, Cell.setSlot, Cell.withEntry, Array.getElem?_setIfInBounds, bC, bS, bP, bC.symm, bS.symm, bP.symm, defaultValue] using this, fun _ _ => rfl⟩
  obtain ⟨tm, methC, cdC, kC, vm₁, hnC, -, -, -, -, -, -, -, hW₁, st1⟩ := Steps.initColdS (tb := p.tables) (e := e) (below := below) (s := s) (U := W9) X.here hexec X.warmed hpl hown (t := Bundle.initS cn) rfl rfl (Bundle.fit_spec hcls).2
    (a' (.methodLink own ic (Bundle.initS cn)) (by simp [nxAtoms])) (h (.instanceMethod (Bundle.initS cn)) (by simp [nxAtoms, Bundle.passSAtoms])) (bytes := nx6) (maxL := 2) (h (.code (Bundle.initS cn) nx6 2 none) (by simp [nxAtoms, Bundle.passSAtoms]))
    (f := g) hg (a := a) (msg := msg) (rest := .ref a :: rest) hstack hd6
  cases Option.some.inj (hnC.symm.trans hP1m)
  have X₁ := X.noted hW₁
  obtain ⟨vm₂, X₂, st2⟩ := X₁.ctorMessageOffV hexec (g := { g with stack := .ref a :: rest }) hg hsize T L Z LZ M LM (P1 :: P2 :: Ps2)
    (fun P hP => by rcases List.mem_cons.mp hP with rfl | hP; exact L1; rcases List.mem_cons.mp hP with rfl | hP; exact L2; exact hL2 P hP) ⟨hlink1, hlink⟩ (u0 := u0) (sen := sen) (self := a) hmsg (cell := freshCell P1.m.cls kX) (cellS := cellS)
    hcell (fun _ => by simp) (by simp) rfl rfl hsel0 hselF hcellS hneS hknownS (by rw [hkeep _ (hout' _)]; exact hu0) (by rw [hkeep _ (hout' _)]; exact hsen)
    (Takes.of_laid hk hord tyC (by rw [Y.causeType]; rfl)) (Takes.of_laid hk hord tyS (by rw [Y.stackType]; exact fits_refV_array _ u0)) (Takes.of_laid hk hord tyP (by rw [Y.suppType]; exact fits_refV_object _ sen))
    (Takes.of_laid hk hord tyM (by rw [Y.msgType]; exact fits_refV_object _ ⟨msg, hmsg⟩)) Y.objLocals hskip htr [] hd6
    (by simp only [List.length_cons, hlen2, List.length_nil]; omega) (by simp only [List.length_cons, hlen2, List.length_nil]; exact hRlocals)
  obtain ⟨hwalk, hrun, hended, hWU, hsame⟩ := X₂.athrowLeaves hexec (g := { g with stack := .ref a :: rest, pc := g.pc + 3 }) hg hlocked hentered hout (a := a) (rest := rest) rfl hd9 hlocks
  have hlt : a < ((W9.setVm vm₁).setVm vm₂).heap.size := (Array.getElem?_eq_some_iff.mp hcell).1
  have hU := heapAt_setCell_self (s := (W9.setVm vm₁).setVm vm₂) (plainBareV T.toThrowableT (freshCell P1.m.cls kX) a u0 sen msg) hlt
  refine ⟨_, st1 _ (fun acts => ?_), hrun, hended, hWU, hsame.weaken (fun y hy hlt' => ?_) (Nat.le_refl _) (Nat.le_refl _), _, hU, rfl, hfound⟩
  · rw [doInvoke_state]
    exact st2 _ hwalk
  · rcases List.mem_append.mp hy with h1 | h1
    · exact h1
    · exfalso
      have hb : y.base = a := by
        simp only [List.mem_cons, List.not_mem_nil, or_false] at h1
        rcases h1 with rfl | rfl | rfl | rfl | rfl <;> rfl
      rw [hb] at hlt'
      exact Nat.not_lt.mpr hnew hlt'
end NX
def nx_at (own : String) (ic : Nat) (X : String) : List Cond := (nxAtoms own ic X).filter vx_no
section NX2
variable {p : Program} {l : Launch} {e : Env} {R : Room} {s : State} {m : MethodId} {args : Array Value} {below : List Frame} {meth : Method} {c : Code} {H : Heap} {locs : List Loc} {cells slots : Nat} {Q : State → Prop}
variable {mc ms : Nat} {free : Addr → Prop} {A0 A1 : Nat → Prop} {H0 : Heap} {a : Array Value} {ls : Array Slot} {st0 rest : List Value}
variable {Qc : Array Value → State → Outcome → State → Prop} {XC : String → State → State → Prop}
theorem nx_throw {cc : ByteArray} {pc : Nat} (hexec : p.tables.exec = Jvm.exec) (hb : c.code = cc) (hl : l.stackTraces = false) {own cls text : String} {ik is ic mc ms sa : Nat} {A : Nat → Prop}
    (hown : s.vm.findClass own = some m.cls) (hcls : Bundle.fit cls = true) 
    (hk : (Cond.classLink own ik cls).before args s = true) (hini : (Cond.initialized cls).before args s = true) (hstr : vk_R own is text sa s) (hat : ∀ w ∈ nx_at own ic cls, w.before args s = true)
    (hgood : ∀ w ∈ Cond.classLink own ik cls :: Cond.initialized cls :: nx_at own ic cls, vx_ot w = true)
    (hU : vx_Zq Bundle.tN "UNASSIGNED_STACK" Bundle.steD A s s.heap) (hN : vx_Zq Bundle.tN "SUPPRESSED_SENTINEL" Bundle.listD A s s.heap) (hS : va_S A s.heap H locs) (hsize : ls.size = c.maxLocals)
    (d0 : decode cc pc = .ok (.new ik, 3)) (d3 : decode cc (pc + 3) = .ok (.dup, 1)) (d4 : decode cc (pc + 4) = .ok (.ldc is, 2)) (d6 : decode cc (pc + 6) = .ok (.invokespecial ic, 3)) (d9 : decode cc (pc + 9) = .ok (.athrow, 1))
    (hout : ∀ x ∈ c.exceptionTable.toList, covers x (pc + 9) = false)
    (hRframes : 2 + 3 < R.frames) (hRlocals : (rest.map fun v => v.category).sum + (13 * (2 + 1) + 43) ≤ R.locals) (hRcells : cells + 1 ≤ R.cells) (hRslots : slots + 6 ≤ R.slots) (hlocks : meth.locks = false)
    (hx : ∀ t : State, s.vm.Alike t.vm → H.size ≤ t.heap.size → (∀ q : Nat, q < H.size → t.heap[q]? = H[q]?) → XC cls s t)
    (hf : ∀ z ∈ locs, free z.base) (hc : cells + 1 ≤ mc) (hs : slots + 6 ≤ ms) :
    W p l e R s m args below meth c H locs cells slots (vx_MQ below Qc XC args s mc ms free) (F0 m pc ls rest) := by
  intro T hT X
  have htr : e.platform.stackTraces = false := (show e.platform.stackTraces = l.stackTraces by rw [X.admits.platform]).trans hl
  have Y := vx_rebase X (R' := { frames := R.frames, locals := R.locals, cells := 1, slots := 6 }) (Nat.le_refl _) (Nat.le_refl _) hRcells hRslots
  obtain ⟨s', hA⟩ : ∃ z, z = (T.setVm s.vm).setFrames (.invoking m args :: below) := ⟨_, rfl⟩
  rw [← hA] at Y
  have hvm : s'.vm = s.vm := by rw [hA]; rfl
  have hhp : s'.heap = H := by rw [hA]; exact hT
  have hW0 : s.WarmedH s'.vm := by rw [hvm]; exact State.WarmedH.refl s
  have hat' : ∀ w ∈ nx_at own ic cls, w.before args s' = true := fun w hw => vx_ot_at hW0 hvm.symm (hgood w (List.mem_cons_of_mem _ (List.mem_cons_of_mem _ hw))) (hat w hw)
  have hk' : (Cond.classLink own ik cls).before args s' = true := vx_ot_at hW0 hvm.symm (hgood _ List.mem_cons_self) hk
  have hini' : (Cond.initialized cls).before args s' = true := vx_ot_at hW0 hvm.symm (hgood _ (List.mem_cons_of_mem _ List.mem_cons_self)) hini
  have hU' : vx_Zq Bundle.tN "UNASSIGNED_STACK" Bundle.steD A s' s'.heap := by rw [hhp]; exact vx_Zq.moved hW0.alike (hU.kept hS.2.1)
  have hN' : vx_Zq Bundle.tN "SUPPRESSED_SENTINEL" Bundle.listD A s' s'.heap := by rw [hhp]; exact vx_Zq.moved hW0.alike (hN.kept hS.2.1)
  have h : ∀ w ∈ nxAtoms own ic cls, w.before args s' = true := vx_own (L := nxAtoms own ic cls) hat' (vx_isRefq hU'.1) (vx_isRefq hN'.1) hU'.2.word hN'.2.word
  have hown' : s'.vm.findClass own = some m.cls := by rw [hvm]; exact hown
  have hins : (Cond.instantiable cls 6).before args s' = true := h _ (by simp [nxAtoms])
  obtain ⟨vm₁, cX, kX, hfX, hkX, -, -, X₁, st1⟩ := Y.newCold hexec (own := own) (C := cls) (index := ik) (n := 6) hown' hk' hins hini'
    (g := F0 m pc ls rest) rfl (by rw [hb]; exact d0) (Nat.le_refl _) (Nat.le_refl _)
  generalize hT1 : (T.setVm vm₁).pushCell { cls := cX, slots := kX.instanceTypes.map defaultValue, vm := .none } = T1 at X₁ st1
  have hcat : (Value.ref T.heap.size).category = 1 := rfl
  have hcellA : T1.heap[T.heap.size]? = some (freshCell cX kX) := by rw [← hT1]; exact State.heap_pushCell_size _ _
  have d3' : decode c.code (pc + 3) = .ok (.dup, 1) := by rw [hb]; exact d3
  have d4' : decode c.code (pc + 4) = .ok (.ldc is, 2) := by rw [hb]; exact d4
  have hstr' : vk_R own is text sa s' := vk_R.warm hW0 hstr
  obtain ⟨U, hsteps, hrun, hend, hW, hsame, ce, hce, hOv, hOc⟩ := nx_ctor X₁ hexec htr (own := own) (cn := cls) (ic := ic) hown' hcls h (fun x hx => nomatch hx) hfX hkX hcellA (by rw [hhp, hT]; exact Nat.le_refl _) (msg := .ref sa) rfl
    (g := { method := m, pc := pc + 6, locals := ls, stack := .ref sa :: .ref T.heap.size :: .ref T.heap.size :: rest, locked := none }) rfl hsize rfl rfl (rest := rest) rfl
    (by rw [hb]; exact d6) (by rw [hb]; exact d9) hout hRframes (by simp only [List.map_cons, List.sum_cons, hcat]; omega) hlocks
  obtain ⟨f1, f2⟩ := vx_frame hsame
  rw [hhp] at f1 f2
  have hWs : s.WarmedH U.vm := State.WarmedH.trans hW0 hW
  have hcl : s.vm.findClass cls = some ce.cls := by
    have h9 := hOc
    rw [hvm] at h9
    exact h9
  have hall : s.sameButNew ({ U with vm := s.vm } : State) locs mc ms := by
    subst hA
    obtain ⟨e1, e2⟩ := hsame
    rw [State.setFrames_setFrames] at e1
    have h2 : (T.setVm s.vm).sameButNew ({ U with vm := s.vm } : State) [] (0 + 1) (0 + 6) := ⟨e1, e2⟩
    have h3 := X.same.trans h2
    rw [List.append_nil] at h3
    exact h3.mono hc hs
  refine ⟨U, ?_, .threw T.heap.size, hrun, hend, Or.inr ⟨T.heap.size, rfl, cls, ce, locs, hx U hWs.alike f1 (fun q hq => f2 q hq (fun z hz => nomatch hz)), hce, hOv, hcl, hWs, hall, hf⟩⟩
  refine st1 _ ?_
  show Steps p.tables e below (T1.setTop { method := m, pc := pc + 3, locals := ls, stack := .ref T.heap.size :: rest, locked := none }) _
  jvm_step X₁.here [X₁.here.top, hexec, d3', Value.category]
  exact X₁.ldcString hexec (own := own) (text := text) (index := is) (a := sa) hown' hstr'.1 hstr'.2
    (g := { method := m, pc := pc + 4, locals := ls, stack := .ref T.heap.size :: .ref T.heap.size :: rest, locked := none }) rfl d4' _ hsteps
end NX2
theorem g_throwN {Γ : GE} {μ : MS} {A : Nat → Prop} {ce sl : Nat} {M : HM} {n pc : Nat} {vs : List (Option Value)} {st : List Value} {Q : Option Value → HM → Nat → Prop} {X : String → HM → Nat → Prop} {ik is ic lit : Nat} {C text : String} (hk : Cond.classLink μ.1 ik C ∈ TB) (hini : Cond.initialized C ∈ TB) (hcls : Bundle.fit C = true) (hlit : (μ.1, is, text, lit) ∈ litL) (hat : ∀ w ∈ nx_at μ.1 ic C, w ∈ TB ∨ w ∈ NB) (hgood : ∀ w ∈ Cond.classLink μ.1 ik C :: Cond.initialized C :: nx_at μ.1 ic C, vx_ot w = true)
    (d0 : decode μ.2.1 pc = .ok (.new ik, 3)) (d3 : decode μ.2.1 (pc + 3) = .ok (.dup, 1)) (d4 : decode μ.2.1 (pc + 4) = .ok (.ldc is, 2)) (d6 : decode μ.2.1 (pc + 6) = .ok (.invokespecial ic, 3)) (d9 : decode μ.2.1 (pc + 9) = .ok (.athrow, 1)) (hhh : μ.2.2.2.2.2.2 = [])
    (hf : 2 + 3 < μ.2.2.2.2.2.1.frames) (hlo : (st.map fun v => v.category).sum + (13 * (2 + 1) + 43) ≤ μ.2.2.2.2.2.1.locals) (hce : ce + 1 ≤ μ.2.2.2.2.2.1.cells) (hsl : sl + 6 ≤ μ.2.2.2.2.2.1.slots) (hx : ∀ n', n ≤ n' → X C M n') : G Γ μ A (EX Γ μ A Q X) ce sl M n pc vs st := by
  intro p e s m args below meth c H locs ls CC h1 h2 h3 h4 h5
  obtain ⟨c1, c2, c3, c4, c5, c6, c7, c8, c9, c10, c11, c12, c13⟩ := id CC
  subst h2
  refine nx_throw c1 c2 c12 c4 hcls (c5 _ hk) (c5 _ hini) (c11.2.1 _ hlit) (fun w hw => (hat w hw).elim (c5 w) (fun h => c11.nb h)) hgood c11.2.2.2.1 c11.2.2.2.2.1 h4 (by rw [c3]; exact h5.1) d0 d3 d4 d6 d9 (fun x hx9 => by rw [c13, hhh] at hx9; exact nomatch hx9) hf hlo hce hsl c7 (fun t ht g1 g2 => ?_) h4.2.2 hce hsl
  refine ⟨⟨M, fun a e9 ha => (h1 a e9 ha).kept (g2 a ((h1 a e9 ha).lt)), h3, hx _ g1⟩, Nat.le_trans h4.1 g1, fun q q1 q2 => (g2 q (Nat.lt_of_lt_of_le q1 h4.1)).trans (h4.2.1 q q1 q2)⟩
end
section
theorem d_VS_thing_0 : decode b_VS_thing 0 = .ok (.aload_n 0, 1) := by decide +kernel
theorem d_VS_thing_1 : decode b_VS_thing 1 = .ok (.getfield 19, 3) := by decide +kernel
theorem d_VS_thing_4 : decode b_VS_thing 4 = .ok (.iload_n 1, 1) := by decide +kernel
theorem d_VS_thing_5 : decode b_VS_thing 5 = .ok (.invokevirtual 88, 3) := by decide +kernel
theorem d_VS_thing_8 : decode b_VS_thing 8 = .ok (.astore_n 3, 1) := by decide +kernel
theorem d_VS_thing_9 : decode b_VS_thing 9 = .ok (.aload_n 3, 1) := by decide +kernel
theorem d_VS_thing_10 : decode b_VS_thing 10 = .ok (.ifnonnull 13, 3) := by decide +kernel
theorem d_VS_thing_13 : decode b_VS_thing 13 = .ok (.new 170, 3) := by decide +kernel
theorem d_VS_thing_16 : decode b_VS_thing 16 = .ok (.dup, 1) := by decide +kernel
theorem d_VS_thing_17 : decode b_VS_thing 17 = .ok (.ldc 172, 2) := by decide +kernel
theorem d_VS_thing_19 : decode b_VS_thing 19 = .ok (.invokespecial 174, 3) := by decide +kernel
theorem d_VS_thing_22 : decode b_VS_thing 22 = .ok (.athrow, 1) := by decide +kernel
theorem d_Mo_thing_0 : decode b_Mo_thing 0 = .ok (.iload_n 1, 1) := by decide +kernel
theorem d_Mo_thing_1 : decode b_Mo_thing 1 = .ok (.ifCond .lt 15, 3) := by decide +kernel
theorem d_Mo_thing_16 : decode b_Mo_thing 16 = .ok (.iconst 0, 1) := by decide +kernel
theorem d_Mo_thing_17 : decode b_Mo_thing 17 = .ok (.istore_n 3, 1) := by decide +kernel
theorem d_Mo_thing_18 : decode b_Mo_thing 18 = .ok (.iload_n 3, 1) := by decide +kernel
theorem d_Mo_thing_19 : decode b_Mo_thing 19 = .ok (.ifCond .eq 12, 3) := by decide +kernel
theorem d_Mo_thing_31 : decode b_Mo_thing 31 = .ok (.aconst_null, 1) := by decide +kernel
theorem d_Mo_thing_32 : decode b_Mo_thing 32 = .ok (.astore 4, 2) := by decide +kernel
theorem d_Mo_thing_34 : decode b_Mo_thing 34 = .ok (.iload_n 3, 1) := by decide +kernel
theorem d_Mo_thing_35 : decode b_Mo_thing 35 = .ok (.ifCond .eq 11, 3) := by decide +kernel
theorem d_Mo_thing_46 : decode b_Mo_thing 46 = .ok (.iconst 0, 1) := by decide +kernel
theorem d_Mo_thing_47 : decode b_Mo_thing 47 = .ok (.goto 9, 3) := by decide +kernel
theorem d_Mo_thing_56 : decode b_Mo_thing 56 = .ok (.istore 5, 2) := by decide +kernel
theorem d_Mo_thing_58 : decode b_Mo_thing 58 = .ok (.aload_n 0, 1) := by decide +kernel
theorem d_Mo_thing_59 : decode b_Mo_thing 59 = .ok (.iload_n 3, 1) := by decide +kernel
theorem d_Mo_thing_60 : decode b_Mo_thing 60 = .ok (.ifCond .eq 32, 3) := by decide +kernel
theorem d_Mo_thing_92 : decode b_Mo_thing 92 = .ok (.iconst 1, 1) := by decide +kernel
theorem d_Mo_thing_93 : decode b_Mo_thing 93 = .ok (.putfield 32, 3) := by decide +kernel
theorem d_Mo_thing_96 : decode b_Mo_thing 96 = .ok (.aload_n 0, 1) := by decide +kernel
theorem d_Mo_thing_97 : decode b_Mo_thing 97 = .ok (.getfield 32, 3) := by decide +kernel
theorem d_Mo_thing_100 : decode b_Mo_thing 100 = .ok (.ifCond .eq 5, 3) := by decide +kernel
theorem d_Mo_thing_103 : decode b_Mo_thing 103 = .ok (.iconst 0, 1) := by decide +kernel
theorem d_Mo_thing_104 : decode b_Mo_thing 104 = .ok (.ireturn, 1) := by decide +kernel
theorem d_Mo_thing_4 : decode b_Mo_thing 4 = .ok (.iload_n 1, 1) := by decide +kernel
theorem d_Mo_thing_5 : decode b_Mo_thing 5 = .ok (.aload_n 0, 1) := by decide +kernel
theorem d_Mo_thing_6 : decode b_Mo_thing 6 = .ok (.getfield 181, 3) := by decide +kernel
theorem d_Mo_thing_9 : decode b_Mo_thing 9 = .ok (.if_icmp .ge 7, 3) := by decide +kernel
set_option maxRecDepth 20000 in
theorem w_675 : Cond.classLink "VaryStore" 170 "java/util/NoSuchElementException" ∈ TB := tb_in 675 (by decide +kernel) (by decide +kernel)
set_option maxRecDepth 20000 in
theorem w_49 : Cond.initialized "java/util/NoSuchElementException" ∈ TB := tb_in 49 (by decide +kernel) (by decide +kernel)
set_option maxRecDepth 100000 in
theorem atN_VS_170_174 : (∀ w ∈ nx_at "VaryStore" 174 "java/util/NoSuchElementException", w ∈ TB ∨ w ∈ NB) ∧ (∀ w ∈ Cond.classLink "VaryStore" 170 "java/util/NoSuchElementException" :: Cond.initialized "java/util/NoSuchElementException" :: nx_at "VaryStore" 174 "java/util/NoSuchElementException", vx_ot w = true) := ⟨by decide +kernel, by decide +kernel⟩
def k_VS_thing : MS := ("VaryStore", b_VS_thing, 4, (some .int), "thing", { frames := 6, cells := 1, slots := 6, locals := 82 }, [])
set_option maxRecDepth 100000 in
set_option maxHeartbeats 4000000 in
theorem c_VS_thing (Γ : GE) (b : Nat) (rq : Nat) (dr : Nat) (fp : Int) (tm : Int) (i : Int) (w : Int) (u : Int) {M : HM} {n : Nat} (i0 : -2147483648 ≤ i) (i1 : i < 2147483648) (p0 : M (b) = some (.inr (0, [.ref (b + 1), .ref (b + 3), .ref (rq), .ref (dr), .int (iI (fp)), .int (iI (tm)), .ref (b + 17), .ref (b + 19), .ref (b + 21), .ref (b + 25), .ref (b + 29)]))) (p1 : M (b + 3) = some (.inr (3, [.ref (b + 4), .int (iI (0)), .int (iI (u))]))) : CX Γ k_VS_thing y_VS_thing [.ref (b), .int (iI (i)), .int (iI (w))] M (n) (fun v M' n' => False) (fun C M' n' => C = "java/util/NoSuchElementException" ∧ n ≤ n' ∧ (∀ q, M' q = M q) ∧ (True)) := by
  refine CX.of (by decide) rfl rfl 1 rfl (Nat.le_of_ble_eq_true rfl) rfl ?_
  refine g_aload_n d_VS_thing_0 rfl ?_
  refine g_get fa_VS_19 d_VS_thing_1 p0 rfl ?_
  refine g_iload_n d_VS_thing_4 rfl ?_
  refine g_callV1 (ν := k_Sh_at0) ⟨w_194, w_32, w_197, by decide, by decide, by decide +kernel⟩ w_195 w_196 (c_Sh_at0 Γ (b + 3) (i) (u) (by omega) (by omega) p1) d_VS_thing_5 p1 rfl rfl ⟨⟨by decide, by decide⟩, ⟨by decide, by decide⟩⟩ (Nat.le_of_ble_eq_true rfl) (fun v1 M1 n1 hQ1 hn1 hd1 => ?_)
  obtain ⟨rfl, hf1, rfl⟩ := hQ1
  refine g_astore_nN d_VS_thing_8 (by decide) rfl ?_
  refine g_aload_nN d_VS_thing_9 rfl ?_
  refine g_ifnonnullN d_VS_thing_10 ?_
  refine g_throwN (lit := 4) (text := "there is no such thing") w_675 w_49 (by decide +kernel) (by decide) atN_VS_170_174.1 atN_VS_170_174.2 d_VS_thing_13 d_VS_thing_16 d_VS_thing_17 d_VS_thing_19 d_VS_thing_22 rfl (by decide) (by decide) (by decide) (by decide) (fun n9 hn9 => ?_)
  exact ⟨rfl, by omega, fun q  => ((hf1 q ).trans rfl), trivial⟩
def k_Mo_thing0 : MS := ("VaryStoreModel", b_Mo_thing, 6, (some .int), "thing", { frames := 0, cells := 0, slots := 0, locals := 0 }, [])
set_option maxRecDepth 100000 in
set_option maxHeartbeats 4000000 in
theorem c_Mo_thing0 (Γ : GE) (r : Nat) (fa : Int) (tm : Int) (th : Int) (ev : Int64) (rq : Nat) (i : Int) (w : Int) {M : HM} {n : Nat} (i0 : -2147483648 ≤ i) (i1 : i < 2147483648) (p0 : M (r) = some (.inr (6, [.ref (r + 1), .int (iI (0)), .int (iI (fa)), .int (iI (tm)), .int (iI (th)), .long (ev), .ref (rq), .ref (r + 7), .int (iI (0))]))) : CT Γ k_Mo_thing0 y_Mo_thing [.ref (r), .int (iI (i)), .int (iI (w))] M (n) (fun v M' n' => n = n' ∧ (∀ q, q ≠ r → M' q = M q) ∧ v = some (.int (iI (0))) ∧ M' (r) = some (.inr (6, [.ref (r + 1), .int (iI (0)), .int (iI (fa)), .int (iI (tm)), .int (iI (1)), .long (ev), .ref (rq), .ref (r + 7), .int (iI (0))]))) := by
  refine CT.of (by decide) rfl rfl 3 rfl (Nat.le_of_ble_eq_true rfl) rfl ?_
  refine g_iload_n d_Mo_thing_0 rfl ?_
  refine g_if_lt (tgt := 16) d_Mo_thing_1 (by decide) (fun h1 => ?_) (fun h1 => ?_)
  · skip
    refine g_iconst d_Mo_thing_16 ?_
    refine g_istore_n d_Mo_thing_17 (by decide) rfl ?_
    refine g_iload_n d_Mo_thing_18 rfl ?_
    refine g_if_eq (tgt := 31) d_Mo_thing_19 (by decide) (fun _ => ?_) (fun h2 => False.elim (by omega))
    refine g_null d_Mo_thing_31 ?_
    refine g_astoreN d_Mo_thing_32 (by decide) rfl ?_
    refine g_iload_n d_Mo_thing_34 rfl ?_
    refine g_if_eq (tgt := 46) d_Mo_thing_35 (by decide) (fun _ => ?_) (fun h3 => False.elim (by omega))
    refine g_iconst d_Mo_thing_46 ?_
    refine g_goto (tgt := 56) d_Mo_thing_47 (by decide) ?_
    refine g_istore d_Mo_thing_56 (by decide) rfl ?_
    refine g_aload_n d_Mo_thing_58 rfl ?_
    refine g_iload_n d_Mo_thing_59 rfl ?_
    refine g_if_eq (tgt := 92) d_Mo_thing_60 (by decide) (fun _ => ?_) (fun h4 => False.elim (by omega))
    refine g_iconst d_Mo_thing_92 ?_
    refine g_put fa_Mo_32 d_Mo_thing_93 p0 (Nat.le_of_ble_eq_true rfl) rfl rfl rfl ?_
    refine g_aload_n d_Mo_thing_96 rfl ?_
    refine g_get fa_Mo_32 d_Mo_thing_97 (hu_same _ _ _) rfl ?_
    refine g_if_eq (tgt := 105) d_Mo_thing_100 (by decide) (fun h5 => False.elim (by omega)) (fun _ => ?_)
    refine g_iconst d_Mo_thing_103 ?_
    refine g_iret d_Mo_thing_104 rfl ?_ (by decide) (by decide)
    exact ⟨rfl, fun q e0 => ((hu_ne (by omega)).trans rfl), rfl, (hu_same _ _ _)⟩
  · skip
    refine g_iload_n d_Mo_thing_4 rfl ?_
    refine g_aload_n d_Mo_thing_5 rfl ?_
    refine g_get fa_Mo_181 d_Mo_thing_6 p0 rfl ?_
    refine g_icmp_ge (tgt := 16) d_Mo_thing_9 (by decide) (fun h6 => ?_) (fun h6 => False.elim (by omega))
    refine g_iconst d_Mo_thing_16 ?_
    refine g_istore_n d_Mo_thing_17 (by decide) rfl ?_
    refine g_iload_n d_Mo_thing_18 rfl ?_
    refine g_if_eq (tgt := 31) d_Mo_thing_19 (by decide) (fun _ => ?_) (fun h7 => False.elim (by omega))
    refine g_null d_Mo_thing_31 ?_
    refine g_astoreN d_Mo_thing_32 (by decide) rfl ?_
    refine g_iload_n d_Mo_thing_34 rfl ?_
    refine g_if_eq (tgt := 46) d_Mo_thing_35 (by decide) (fun _ => ?_) (fun h8 => False.elim (by omega))
    refine g_iconst d_Mo_thing_46 ?_
    refine g_goto (tgt := 56) d_Mo_thing_47 (by decide) ?_
    refine g_istore d_Mo_thing_56 (by decide) rfl ?_
    refine g_aload_n d_Mo_thing_58 rfl ?_
    refine g_iload_n d_Mo_thing_59 rfl ?_
    refine g_if_eq (tgt := 92) d_Mo_thing_60 (by decide) (fun _ => ?_) (fun h9 => False.elim (by omega))
    refine g_iconst d_Mo_thing_92 ?_
    refine g_put fa_Mo_32 d_Mo_thing_93 p0 (Nat.le_of_ble_eq_true rfl) rfl rfl rfl ?_
    refine g_aload_n d_Mo_thing_96 rfl ?_
    refine g_get fa_Mo_32 d_Mo_thing_97 (hu_same _ _ _) rfl ?_
    refine g_if_eq (tgt := 105) d_Mo_thing_100 (by decide) (fun h10 => False.elim (by omega)) (fun _ => ?_)
    refine g_iconst d_Mo_thing_103 ?_
    refine g_iret d_Mo_thing_104 rfl ?_ (by decide) (by decide)
    exact ⟨rfl, fun q e0 => ((hu_ne (by omega)).trans rfl), rfl, (hu_same _ _ _)⟩
end
section
theorem d_VS_byteOf_0 : decode b_VS_byteOf 0 = .ok (.lload_n 0, 1) := by decide +kernel
theorem d_VS_byteOf_1 : decode b_VS_byteOf 1 = .ok (.bipush 8, 2) := by decide +kernel
theorem d_VS_byteOf_3 : decode b_VS_byteOf 3 = .ok (.iload_n 2, 1) := by decide +kernel
theorem d_VS_byteOf_4 : decode b_VS_byteOf 4 = .ok (.imul, 1) := by decide +kernel
theorem d_VS_byteOf_5 : decode b_VS_byteOf 5 = .ok (.lushr, 1) := by decide +kernel
theorem d_VS_byteOf_6 : decode b_VS_byteOf 6 = .ok (.l2i, 1) := by decide +kernel
theorem d_VS_byteOf_7 : decode b_VS_byteOf 7 = .ok (.sipush 255, 3) := by decide +kernel
theorem d_VS_byteOf_10 : decode b_VS_byteOf 10 = .ok (.iand, 1) := by decide +kernel
theorem d_VS_byteOf_11 : decode b_VS_byteOf 11 = .ok (.ireturn, 1) := by decide +kernel
theorem d_VS_mayBeTyped_0 : decode b_VS_mayBeTyped 0 = .ok (.iload_n 0, 1) := by decide +kernel
theorem d_VS_mayBeTyped_1 : decode b_VS_mayBeTyped 1 = .ok (.bipush 10, 2) := by decide +kernel
theorem d_VS_mayBeTyped_3 : decode b_VS_mayBeTyped 3 = .ok (.if_icmp .eq 15, 3) := by decide +kernel
theorem d_VS_mayBeTyped_18 : decode b_VS_mayBeTyped 18 = .ok (.iconst 1, 1) := by decide +kernel
theorem d_VS_mayBeTyped_19 : decode b_VS_mayBeTyped 19 = .ok (.goto 4, 3) := by decide +kernel
theorem d_VS_mayBeTyped_23 : decode b_VS_mayBeTyped 23 = .ok (.ireturn, 1) := by decide +kernel
theorem d_VS_mayBeTyped_6 : decode b_VS_mayBeTyped 6 = .ok (.iload_n 0, 1) := by decide +kernel
theorem d_VS_mayBeTyped_7 : decode b_VS_mayBeTyped 7 = .ok (.bipush 32, 2) := by decide +kernel
theorem d_VS_mayBeTyped_9 : decode b_VS_mayBeTyped 9 = .ok (.if_icmp .lt 13, 3) := by decide +kernel
theorem d_VS_mayBeTyped_22 : decode b_VS_mayBeTyped 22 = .ok (.iconst 0, 1) := by decide +kernel
theorem d_VS_mayBeTyped_12 : decode b_VS_mayBeTyped 12 = .ok (.iload_n 0, 1) := by decide +kernel
theorem d_VS_mayBeTyped_13 : decode b_VS_mayBeTyped 13 = .ok (.bipush 126, 2) := by decide +kernel
theorem d_VS_mayBeTyped_15 : decode b_VS_mayBeTyped 15 = .ok (.if_icmp .gt 7, 3) := by decide +kernel
theorem d_VS_type_62 : decode b_VS_type 62 = .ok (.iload 4, 2) := by decide +kernel
theorem d_VS_type_64 : decode b_VS_type 64 = .ok (.ifCond .lt 23, 3) := by decide +kernel
theorem d_VS_type_87 : decode b_VS_type 87 = .ok (.iconst 1, 1) := by decide +kernel
theorem d_VS_type_88 : decode b_VS_type 88 = .ok (.ireturn, 1) := by decide +kernel
theorem d_VS_type_67 : decode b_VS_type 67 = .ok (.aload_n 0, 1) := by decide +kernel
theorem d_VS_type_68 : decode b_VS_type 68 = .ok (.getfield 12, 3) := by decide +kernel
theorem d_VS_type_71 : decode b_VS_type 71 = .ok (.lload_n 1, 1) := by decide +kernel
theorem d_VS_type_72 : decode b_VS_type 72 = .ok (.iload 4, 2) := by decide +kernel
theorem d_VS_type_74 : decode b_VS_type 74 = .ok (.invokestatic 62, 3) := by decide +kernel
theorem d_VS_type_77 : decode b_VS_type 77 = .ok (.i2c, 1) := by decide +kernel
theorem d_VS_type_78 : decode b_VS_type 78 = .ok (.invokevirtual 70, 3) := by decide +kernel
theorem d_VS_type_81 : decode b_VS_type 81 = .ok (.iinc 4 (-1), 3) := by decide +kernel
theorem d_VS_type_84 : decode b_VS_type 84 = .ok (.goto (-22), 3) := by decide +kernel
theorem d_VS_type_31 : decode b_VS_type 31 = .ok (.iload 4, 2) := by decide +kernel
theorem d_VS_type_33 : decode b_VS_type 33 = .ok (.iload_n 3, 1) := by decide +kernel
theorem d_VS_type_34 : decode b_VS_type 34 = .ok (.if_icmp .ge 23, 3) := by decide +kernel
theorem d_VS_type_57 : decode b_VS_type 57 = .ok (.iload_n 3, 1) := by decide +kernel
theorem d_VS_type_58 : decode b_VS_type 58 = .ok (.iconst 1, 1) := by decide +kernel
theorem d_VS_type_59 : decode b_VS_type 59 = .ok (.isub, 1) := by decide +kernel
theorem d_VS_type_60 : decode b_VS_type 60 = .ok (.istore 4, 2) := by decide +kernel
theorem d_VS_type_37 : decode b_VS_type 37 = .ok (.lload_n 1, 1) := by decide +kernel
theorem d_VS_type_38 : decode b_VS_type 38 = .ok (.iload 4, 2) := by decide +kernel
theorem d_VS_type_40 : decode b_VS_type 40 = .ok (.invokestatic 62, 3) := by decide +kernel
theorem d_VS_type_43 : decode b_VS_type 43 = .ok (.invokestatic 66, 3) := by decide +kernel
theorem d_VS_type_46 : decode b_VS_type 46 = .ok (.ifCond .ne 5, 3) := by decide +kernel
theorem d_VS_type_51 : decode b_VS_type 51 = .ok (.iinc 4 1, 3) := by decide +kernel
theorem d_VS_type_54 : decode b_VS_type 54 = .ok (.goto (-23), 3) := by decide +kernel
theorem d_VS_type_49 : decode b_VS_type 49 = .ok (.iconst 0, 1) := by decide +kernel
theorem d_VS_type_50 : decode b_VS_type 50 = .ok (.ireturn, 1) := by decide +kernel
theorem d_VS_type_0 : decode b_VS_type 0 = .ok (.iload_n 3, 1) := by decide +kernel
theorem d_VS_type_1 : decode b_VS_type 1 = .ok (.iconst 1, 1) := by decide +kernel
theorem d_VS_type_2 : decode b_VS_type 2 = .ok (.if_icmp .lt 24, 3) := by decide +kernel
theorem d_VS_type_26 : decode b_VS_type 26 = .ok (.iconst 0, 1) := by decide +kernel
theorem d_VS_type_27 : decode b_VS_type 27 = .ok (.ireturn, 1) := by decide +kernel
theorem d_VS_type_5 : decode b_VS_type 5 = .ok (.iload_n 3, 1) := by decide +kernel
theorem d_VS_type_6 : decode b_VS_type 6 = .ok (.bipush 8, 2) := by decide +kernel
theorem d_VS_type_8 : decode b_VS_type 8 = .ok (.if_icmp .gt 18, 3) := by decide +kernel
theorem d_VS_type_11 : decode b_VS_type 11 = .ok (.aload_n 0, 1) := by decide +kernel
theorem d_VS_type_12 : decode b_VS_type 12 = .ok (.getfield 12, 3) := by decide +kernel
theorem d_VS_type_15 : decode b_VS_type 15 = .ok (.getfield 59, 3) := by decide +kernel
theorem d_VS_type_18 : decode b_VS_type 18 = .ok (.iload_n 3, 1) := by decide +kernel
theorem d_VS_type_19 : decode b_VS_type 19 = .ok (.iadd, 1) := by decide +kernel
theorem d_VS_type_20 : decode b_VS_type 20 = .ok (.sipush 300, 3) := by decide +kernel
theorem d_VS_type_23 : decode b_VS_type 23 = .ok (.if_icmp .le 5, 3) := by decide +kernel
theorem d_VS_type_28 : decode b_VS_type 28 = .ok (.iconst 0, 1) := by decide +kernel
theorem d_VS_type_29 : decode b_VS_type 29 = .ok (.istore 4, 2) := by decide +kernel
set_option maxRecDepth 20000 in
theorem w_178 : Cond.code ⟨"VaryStore", "byteOf", "(JI)I"⟩ prog_1_method_12_code 3 (some .int) ∈ TB := tb_in 178 (by decide +kernel) (by decide +kernel)
set_option maxRecDepth 20000 in
theorem w_176 : Cond.methodLink "VaryStore" 62 ⟨"VaryStore", "byteOf", "(JI)I"⟩ ∈ TB := tb_in 176 (by decide +kernel) (by decide +kernel)
set_option maxRecDepth 20000 in
theorem w_177 : Cond.static ⟨"VaryStore", "byteOf", "(JI)I"⟩ ∈ TB := tb_in 177 (by decide +kernel) (by decide +kernel)
set_option maxRecDepth 20000 in
theorem w_182 : Cond.methodLink "VaryStore" 70 ⟨"VaryStore$Row", "add", "(C)V"⟩ ∈ TB := tb_in 182 (by decide +kernel) (by decide +kernel)
set_option maxRecDepth 20000 in
theorem w_181 : Cond.code ⟨"VaryStore", "mayBeTyped", "(I)Z"⟩ prog_1_method_13_code 1 (some .boolean) ∈ TB := tb_in 181 (by decide +kernel) (by decide +kernel)
set_option maxRecDepth 20000 in
theorem w_179 : Cond.methodLink "VaryStore" 66 ⟨"VaryStore", "mayBeTyped", "(I)Z"⟩ ∈ TB := tb_in 179 (by decide +kernel) (by decide +kernel)
set_option maxRecDepth 20000 in
theorem w_180 : Cond.static ⟨"VaryStore", "mayBeTyped", "(I)Z"⟩ ∈ TB := tb_in 180 (by decide +kernel) (by decide +kernel)
def wsh (w : Int64) (i : Int) : Int64 := (w.toUInt64 >>> ((iI (8 * i)).toInt64.toUInt64 &&& Int64.toUInt64 63)).toInt64
def wbz (w : Int64) (i : Int) : Int := ((wsh w i).toInt32 &&& iI 255).toInt
theorem wbz_rng (w : Int64) (i : Int) : 0 ≤ wbz w i ∧ wbz w i < 256 := by
  obtain ⟨j, h1, h2⟩ := and255 (wsh w i).toInt32
  unfold wbz
  rw [h2, iI_toInt (by omega) (by omega)]
  omega
theorem wbz_c (w : Int64) (i : Int) : iI ((wsh w i).toInt32.toInt) &&& iI 255 = iI (wbz w i) := by
  rw [iI_of]; exact (iI_of _).symm
theorem wbz_m (w : Int64) (i : Int) : (wsh w i &&& 255).toInt32 = iI (wbz w i) := by
  rw [Int64.toInt32_and]; exact (iI_of _).symm
theorem i2c_int {z : Int} (h1 : 0 ≤ z) (h2 : z < 65536) : ((iI z).toUInt32 % 65536).toInt32 = iI z := by
  obtain ⟨j, rfl⟩ := Int.eq_ofNat_of_zero_le h1
  exact i2c_nat (by omega)
def okc (c : Int) : Prop := c = 10 ∨ (32 ≤ c ∧ c ≤ 126)
def typeOK (w : Int64) (k : Int) : Prop := 1 ≤ k ∧ k ≤ 8 ∧ ∀ j : Int, 0 ≤ j → j < k → okc (wbz w j)
def k_VS_byteOf : MS := ("VaryStore", b_VS_byteOf, 3, (some .int), "byteOf", { frames := 0, cells := 0, slots := 0, locals := 0 }, [])
set_option maxRecDepth 100000 in
set_option maxHeartbeats 4000000 in
theorem c_VS_byteOf (Γ : GE) (w : Int64) (i : Int) {M : HM} {n : Nat}   : CT Γ k_VS_byteOf y_VS_byteOf [.long (w), .int (iI (i))] M (n) (fun v M' n' => n = n' ∧ (∀ q, M' q = M q) ∧ v = some (.int (iI (wbz w i)))) := by
  refine CT.of (by decide) rfl rfl 0 rfl (Nat.le_of_ble_eq_true rfl) rfl ?_
  refine g_lload_n d_VS_byteOf_0 rfl ?_
  refine g_bipush d_VS_byteOf_1 (by decide) ?_
  refine g_iload_n d_VS_byteOf_3 rfl ?_
  refine g_imul d_VS_byteOf_4 ?_
  refine g_lushr d_VS_byteOf_5 rfl ?_
  refine g_l2i d_VS_byteOf_6 (iI_of _).symm ?_
  refine g_sipush d_VS_byteOf_7 (by decide) ?_
  refine g_iand (z := wbz w i) d_VS_byteOf_10 (wbz_c w i) ?_
  refine g_iret d_VS_byteOf_11 rfl ?_ (by decide) (by decide)
  exact ⟨rfl, fun q  => rfl, rfl⟩
def k_VS_mayBeTyped : MS := ("VaryStore", b_VS_mayBeTyped, 1, (some .boolean), "mayBeTyped", { frames := 0, cells := 0, slots := 0, locals := 0 }, [])
set_option maxRecDepth 100000 in
set_option maxHeartbeats 4000000 in
theorem c_VS_mayBeTyped (Γ : GE) (c : Int) {M : HM} {n : Nat} (c0 : 0 ≤ c) (c1 : c < 256)  : CT Γ k_VS_mayBeTyped y_VS_mayBeTyped [.int (iI (c))] M (n) (fun v M' n' => n = n' ∧ (∀ q, M' q = M q) ∧ ((v = some (.int (iI 1)) ∧ okc c) ∨ (v = some (.int (iI 0)) ∧ ¬ okc c))) := by
  refine CT.of (by decide) rfl rfl 0 rfl (Nat.le_of_ble_eq_true rfl) rfl ?_
  refine g_iload_n d_VS_mayBeTyped_0 rfl ?_
  refine g_bipush d_VS_mayBeTyped_1 (by decide) ?_
  refine g_icmp_eq (tgt := 18) d_VS_mayBeTyped_3 (by decide) (fun h1 => ?_) (fun h1 => ?_)
  · skip
    refine g_iconst d_VS_mayBeTyped_18 ?_
    refine g_goto (tgt := 23) d_VS_mayBeTyped_19 (by decide) ?_
    refine g_zret (ty := .boolean) (by first | rfl | decide) d_VS_mayBeTyped_23 rfl ?_ (by decide) (by decide)
    exact ⟨rfl, fun q => rfl, Or.inl ⟨rfl, by unfold okc; omega⟩⟩
  · skip
    refine g_iload_n d_VS_mayBeTyped_6 rfl ?_
    refine g_bipush d_VS_mayBeTyped_7 (by decide) ?_
    refine g_icmp_lt (tgt := 22) d_VS_mayBeTyped_9 (by decide) (fun h2 => ?_) (fun h2 => ?_)
    · skip
      refine g_iconst d_VS_mayBeTyped_22 ?_
      refine g_zret (ty := .boolean) (by first | rfl | decide) d_VS_mayBeTyped_23 rfl ?_ (by decide) (by decide)
      exact ⟨rfl, fun q => rfl, Or.inr ⟨rfl, by unfold okc; omega⟩⟩
    · skip
      refine g_iload_n d_VS_mayBeTyped_12 rfl ?_
      refine g_bipush d_VS_mayBeTyped_13 (by decide) ?_
      refine g_icmp_gt (tgt := 22) d_VS_mayBeTyped_15 (by decide) (fun h3 => ?_) (fun h3 => ?_)
      · skip
        refine g_iconst d_VS_mayBeTyped_22 ?_
        refine g_zret (ty := .boolean) (by first | rfl | decide) d_VS_mayBeTyped_23 rfl ?_ (by decide) (by decide)
        exact ⟨rfl, fun q => rfl, Or.inr ⟨rfl, by unfold okc; omega⟩⟩
      · skip
        refine g_iconst d_VS_mayBeTyped_18 ?_
        refine g_goto (tgt := 23) d_VS_mayBeTyped_19 (by decide) ?_
        refine g_zret (ty := .boolean) (by first | rfl | decide) d_VS_mayBeTyped_23 rfl ?_ (by decide) (by decide)
        exact ⟨rfl, fun q => rfl, Or.inl ⟨rfl, by unfold okc; omega⟩⟩
def Q_VS_type (Γ : GE) (M : HM) (n b : Nat) (w : Int64) (k : Int) : Option Value → HM → Nat → Prop := fun v M' n' => n = n' ∧ (∀ q, q ≠ b + 1 → q ≠ b + 2 → M' q = M q) ∧ ((v = some (.int (iI 1)) ∧ typeOK w k) ∨ (v = some (.int (iI 0)) ∧ ¬ typeOK w k))
def k_VS_type : MS := ("VaryStore", b_VS_type, 5, (some .boolean), "type", { frames := 1, cells := 0, slots := 0, locals := 22 }, [])
set_option maxRecDepth 100000 in
set_option maxHeartbeats 4000000 in
theorem c_VS_type (Γ : GE) (b : Nat) (rq : Nat) (dr : Nat) (fp : Int) (tm : Int) (w : Int64) (k : Int) (f : Nat → Int32) {M : HM} {n : Nat} (ka : -2147483648 ≤ k) (kb : k < 2147483648) (p0 : M (b) = some (.inr (0, [.ref (b + 1), .ref (b + 3), .ref (rq), .ref (dr), .int (iI (fp)), .int (iI (tm)), .ref (b + 17), .ref (b + 19), .ref (b + 21), .ref (b + 25), .ref (b + 29)]))) (p1 : M (b + 1) = some (.inr (2, [.ref (b + 2), .int (iI (0))]))) (p2 : M (b + 1 + 1) = some (.inl (Γ.2.2.1 0, 300, .inl (f)))) : CT Γ k_VS_type y_VS_type [.ref (b), .long (w), .int (iI (k))] M (n) (Q_VS_type Γ M n b w k) := by
  refine CT.of (by decide) rfl rfl 1 rfl (Nat.le_of_ble_eq_true rfl) rfl ?_
  have loop2 : 1 ≤ k → k ≤ 8 → (∀ j : Int, 0 ≤ j → j < k → okc (wbz w j)) → ∀ (kk : Nat) (i z : Int) (f1 : Nat → Int32) (M1 : HM), -1 ≤ i → i < k → i + 1 < (kk : Int) → z = k - 1 - i → 0 ≤ z → (∀ q, q ≠ b + 1 → q ≠ b + 2 → M1 q = M q) → M1 (b) = some (.inr (0, [.ref (b + 1), .ref (b + 3), .ref (rq), .ref (dr), .int (iI (fp)), .int (iI (tm)), .ref (b + 17), .ref (b + 19), .ref (b + 21), .ref (b + 25), .ref (b + 29)])) → M1 (b + 1) = some (.inr (2, [.ref (b + 2), .int (iI (z))])) → M1 (b + 1 + 1) = some (.inl (Γ.2.2.1 0, 300, .inl (f1))) → G Γ k_VS_type (AA M n) (EM Γ k_VS_type (AA M n) (Q_VS_type Γ M n b w k)) 0 0 M1 n 62 [some (.ref (b)), some (.long (w)), none, some (.int (iI (k))), some (.int (iI (i)))] [] := by
    intro hk1 hk8 hok kk
    induction kk with
    | zero => intro i z f1 M1 y1 y2 y3 y4 y5; omega
    | succ kk ih =>
      intro i z f1 M1 y1 y2 y3 y4 y5 hfr q0 q1 q2
      refine g_iload d_VS_type_62 rfl ?_
      refine g_if_lt (tgt := 87) d_VS_type_64 (by decide) (fun h101 => ?_) (fun h101 => ?_)
      · skip
        refine g_iconst d_VS_type_87 ?_
        refine g_zret (ty := .boolean) (by first | rfl | decide) d_VS_type_88 rfl ?_ (by decide) (by decide)
        exact ⟨rfl, fun q e0 e1 => (hfr q e0 e1), Or.inl ⟨rfl, hk1, hk8, hok⟩⟩
      · skip
        refine g_aload_n d_VS_type_67 rfl ?_
        refine g_get fa_VS_12 d_VS_type_68 q0 rfl ?_
        refine g_lload_n d_VS_type_71 rfl ?_
        refine g_iload d_VS_type_72 rfl ?_
        refine g_callS2 (ν := k_VS_byteOf) ⟨w_176, w_30, w_178, by decide, by decide, by decide +kernel⟩ w_177 (c_VS_byteOf Γ (w) (i)  ) d_VS_type_74 ⟨⟨by decide, by decide⟩, ⟨by decide, by decide⟩⟩ (Nat.le_of_ble_eq_true rfl) (fun v102 M102 n102 hQ102 hn102 hd102 => ?_)
        obtain ⟨rfl, hf102, rfl⟩ := hQ102
        have hr102 := wbz_rng w i
        refine g_i2c d_VS_type_77 (i2c_int (by omega) (by omega)) ?_
        refine g_callV1 (ν := k_Ro_add) ⟨w_182, w_31, w_185, by decide, by decide, by decide +kernel⟩ w_183 w_184 (c_Ro_add Γ (b + 1) (z) (wbz w i) (f1) (by omega) (by omega) (by omega) (by omega) ((hf102 ((b + 1)) ).trans q1) ((hf102 ((b + 1) + 1) ).trans q2)) d_VS_type_78 ((hf102 (b + 1) ).trans q1) rfl rfl ⟨⟨by decide, by decide⟩, ⟨by decide, by decide⟩⟩ (Nat.le_of_ble_eq_true rfl) (fun v103 M103 n103 hQ103 hn103 hd103 => ?_)
        obtain ⟨rfl, hf103, rfl, hw103_0, hw103_1⟩ := hQ103
        refine g_iinc d_VS_type_81 rfl (by decide) rfl ?_
        refine g_goto (tgt := 62) d_VS_type_84 (by decide) ?_
        exact ih (i + (-1)) ((z + 1)) _ _ (by omega) (by omega) (by omega) (by omega) (by omega) (fun q e0 e1 => ((hf103 q (by omega) (by omega)).trans ((hf102 q ).trans (hfr q e0 e1)))) ((hf103 (b) (by omega) (by omega)).trans ((hf102 (b) ).trans q0)) hw103_1 hw103_0
  have loop1 : 1 ≤ k → k ≤ 8 → ∀ (kk : Nat) (i : Int) (M1 : HM), 0 ≤ i → i ≤ k → k - i < (kk : Int) → -1 ≤ i → (∀ j : Int, 0 ≤ j → j < i → okc (wbz w j)) → (∀ q, q ≠ b + 1 → q ≠ b + 2 → M1 q = M q) → M1 (b) = some (.inr (0, [.ref (b + 1), .ref (b + 3), .ref (rq), .ref (dr), .int (iI (fp)), .int (iI (tm)), .ref (b + 17), .ref (b + 19), .ref (b + 21), .ref (b + 25), .ref (b + 29)])) → M1 (b + 1) = some (.inr (2, [.ref (b + 2), .int (iI (0))])) → M1 (b + 1 + 1) = some (.inl (Γ.2.2.1 0, 300, .inl (f))) → G Γ k_VS_type (AA M n) (EM Γ k_VS_type (AA M n) (Q_VS_type Γ M n b w k)) 0 0 M1 n 31 [some (.ref (b)), some (.long (w)), none, some (.int (iI (k))), some (.int (iI (i)))] [] := by
    intro hk1 hk8 kk
    induction kk with
    | zero => intro i M1 y1 y2 y3; omega
    | succ kk ih =>
      intro i M1 y1 y2 y3 y4 hok hfr q0 q1 q2
      refine g_iload d_VS_type_31 rfl ?_
      refine g_iload_n d_VS_type_33 rfl ?_
      refine g_icmp_ge (tgt := 57) d_VS_type_34 (by decide) (fun h201 => ?_) (fun h201 => ?_)
      · skip
        refine g_iload_n d_VS_type_57 rfl ?_
        refine g_iconst d_VS_type_58 ?_
        refine g_isub d_VS_type_59 ?_
        refine g_istore d_VS_type_60 (by decide) rfl ?_
        exact loop2 (by omega) (by omega) (fun j u1 u2 => hok j u1 (by omega)) 20 ((k - 1)) (0) _ _ (by omega) (by omega) (by omega) (by omega) (by omega) (fun q e0 e1 => (hfr q e0 e1)) q0 q1 q2
      · skip
        refine g_lload_n d_VS_type_37 rfl ?_
        refine g_iload d_VS_type_38 rfl ?_
        refine g_callS2 (ν := k_VS_byteOf) ⟨w_176, w_30, w_178, by decide, by decide, by decide +kernel⟩ w_177 (c_VS_byteOf Γ (w) (i)  ) d_VS_type_40 ⟨⟨by decide, by decide⟩, ⟨by decide, by decide⟩⟩ (Nat.le_of_ble_eq_true rfl) (fun v202 M202 n202 hQ202 hn202 hd202 => ?_)
        obtain ⟨rfl, hf202, rfl⟩ := hQ202
        have hr202 := wbz_rng w i
        refine g_callS1 (ν := k_VS_mayBeTyped) ⟨w_179, w_30, w_181, by decide, by decide, by decide +kernel⟩ w_180 (c_VS_mayBeTyped Γ (wbz w i) (by omega) (by omega) ) d_VS_type_43 ⟨⟨by decide, by decide⟩, ⟨by decide, by decide⟩⟩ (Nat.le_of_ble_eq_true rfl) (fun v203 M203 n203 hQ203 hn203 hd203 => ?_)
        obtain ⟨rfl, hf203, hor203⟩ := hQ203
        rcases hor203 with ⟨rfl, hc203⟩ | ⟨rfl, hc203⟩
        · skip
          refine g_if_ne (tgt := 51) d_VS_type_46 (by decide) (fun _ => ?_) (fun h204 => False.elim (by omega))
          refine g_iinc d_VS_type_51 rfl (by decide) rfl ?_
          refine g_goto (tgt := 31) d_VS_type_54 (by decide) ?_
          exact ih (i + 1) _ (by omega) (by omega) (by omega) (by omega) (fun j u1 u2 => if hj : j < i then hok j u1 hj else (show j = i by omega) ▸ hc203) (fun q e0 e1 => ((hf203 q ).trans ((hf202 q ).trans (hfr q e0 e1)))) ((hf203 (b) ).trans ((hf202 (b) ).trans q0)) ((hf203 (b + 1) ).trans ((hf202 (b + 1) ).trans q1)) ((hf203 (b + 1 + 1) ).trans ((hf202 (b + 1 + 1) ).trans q2))
        · skip
          refine g_if_ne (tgt := 51) d_VS_type_46 (by decide) (fun h205 => False.elim (by omega)) (fun _ => ?_)
          refine g_iconst d_VS_type_49 ?_
          refine g_zret (ty := .boolean) (by first | rfl | decide) d_VS_type_50 rfl ?_ (by decide) (by decide)
          exact ⟨rfl, fun q e0 e1 => ((hf203 q ).trans ((hf202 q ).trans (hfr q e0 e1))), Or.inr ⟨rfl, fun h => absurd (h.2.2 i (by omega) (by omega)) hc203⟩⟩
  refine g_iload_n d_VS_type_0 rfl ?_
  refine g_iconst d_VS_type_1 ?_
  refine g_icmp_lt (tgt := 26) d_VS_type_2 (by decide) (fun h1 => ?_) (fun h1 => ?_)
  · skip
    refine g_iconst d_VS_type_26 ?_
    refine g_zret (ty := .boolean) (by first | rfl | decide) d_VS_type_27 rfl ?_ (by decide) (by decide)
    exact ⟨rfl, fun q e0 e1 => rfl, Or.inr ⟨rfl, fun h => by have h1 := h.1; have h2 := h.2.1; omega⟩⟩
  · skip
    refine g_iload_n d_VS_type_5 rfl ?_
    refine g_bipush d_VS_type_6 (by decide) ?_
    refine g_icmp_gt (tgt := 26) d_VS_type_8 (by decide) (fun h2 => ?_) (fun h2 => ?_)
    · skip
      refine g_iconst d_VS_type_26 ?_
      refine g_zret (ty := .boolean) (by first | rfl | decide) d_VS_type_27 rfl ?_ (by decide) (by decide)
      exact ⟨rfl, fun q e0 e1 => rfl, Or.inr ⟨rfl, fun h => by have h1 := h.1; have h2 := h.2.1; omega⟩⟩
    · skip
      refine g_aload_n d_VS_type_11 rfl ?_
      refine g_get fa_VS_12 d_VS_type_12 p0 rfl ?_
      refine g_get fa_VS_59 d_VS_type_15 p1 rfl ?_
      refine g_iload_n d_VS_type_18 rfl ?_
      refine g_iadd d_VS_type_19 ?_
      refine g_sipush d_VS_type_20 (by decide) ?_
      refine g_icmp_le (tgt := 28) d_VS_type_23 (by decide) (fun h3 => ?_) (fun h3 => False.elim (by omega))
      refine g_iconst d_VS_type_28 ?_
      refine g_istore d_VS_type_29 (by decide) rfl ?_
      exact loop1 (by omega) (by omega) 20 0 _ (by omega) (by omega) (by omega) (by omega) (fun j u1 u2 => by omega) (fun q e0 e1 => rfl) p0 p1 p2
end
section
theorem d_Mo_type_85 : decode b_Mo_type 85 = .ok (.iload 4, 2) := by decide +kernel
theorem d_Mo_type_87 : decode b_Mo_type 87 = .ok (.iload_n 3, 1) := by decide +kernel
theorem d_Mo_type_88 : decode b_Mo_type 88 = .ok (.if_icmp .ge 37, 3) := by decide +kernel
theorem d_Mo_type_125 : decode b_Mo_type 125 = .ok (.aload_n 0, 1) := by decide +kernel
theorem d_Mo_type_126 : decode b_Mo_type 126 = .ok (.dup, 1) := by decide +kernel
theorem d_Mo_type_127 : decode b_Mo_type 127 = .ok (.getfield 35, 3) := by decide +kernel
theorem d_Mo_type_130 : decode b_Mo_type 130 = .ok (.iload_n 3, 1) := by decide +kernel
theorem d_Mo_type_131 : decode b_Mo_type 131 = .ok (.iadd, 1) := by decide +kernel
theorem d_Mo_type_132 : decode b_Mo_type 132 = .ok (.putfield 35, 3) := by decide +kernel
theorem d_Mo_type_135 : decode b_Mo_type 135 = .ok (.iconst 1, 1) := by decide +kernel
theorem d_Mo_type_136 : decode b_Mo_type 136 = .ok (.ireturn, 1) := by decide +kernel
theorem d_Mo_type_91 : decode b_Mo_type 91 = .ok (.aload_n 0, 1) := by decide +kernel
theorem d_Mo_type_92 : decode b_Mo_type 92 = .ok (.getfield 7, 3) := by decide +kernel
theorem d_Mo_type_95 : decode b_Mo_type 95 = .ok (.aload_n 0, 1) := by decide +kernel
theorem d_Mo_type_96 : decode b_Mo_type 96 = .ok (.getfield 35, 3) := by decide +kernel
theorem d_Mo_type_99 : decode b_Mo_type 99 = .ok (.iload 4, 2) := by decide +kernel
theorem d_Mo_type_101 : decode b_Mo_type 101 = .ok (.iadd, 1) := by decide +kernel
theorem d_Mo_type_102 : decode b_Mo_type 102 = .ok (.lload_n 1, 1) := by decide +kernel
theorem d_Mo_type_103 : decode b_Mo_type 103 = .ok (.bipush 8, 2) := by decide +kernel
theorem d_Mo_type_105 : decode b_Mo_type 105 = .ok (.iload_n 3, 1) := by decide +kernel
theorem d_Mo_type_106 : decode b_Mo_type 106 = .ok (.iconst 1, 1) := by decide +kernel
theorem d_Mo_type_107 : decode b_Mo_type 107 = .ok (.isub, 1) := by decide +kernel
theorem d_Mo_type_108 : decode b_Mo_type 108 = .ok (.iload 4, 2) := by decide +kernel
theorem d_Mo_type_110 : decode b_Mo_type 110 = .ok (.isub, 1) := by decide +kernel
theorem d_Mo_type_111 : decode b_Mo_type 111 = .ok (.imul, 1) := by decide +kernel
theorem d_Mo_type_112 : decode b_Mo_type 112 = .ok (.lushr, 1) := by decide +kernel
theorem d_Mo_type_113 : decode b_Mo_type 113 = .ok (.ldc2_w 38, 3) := by decide +kernel
theorem d_Mo_type_116 : decode b_Mo_type 116 = .ok (.land, 1) := by decide +kernel
theorem d_Mo_type_117 : decode b_Mo_type 117 = .ok (.l2i, 1) := by decide +kernel
theorem d_Mo_type_118 : decode b_Mo_type 118 = .ok (.iastore, 1) := by decide +kernel
theorem d_Mo_type_119 : decode b_Mo_type 119 = .ok (.iinc 4 1, 3) := by decide +kernel
theorem d_Mo_type_122 : decode b_Mo_type 122 = .ok (.goto (-37), 3) := by decide +kernel
theorem d_Mo_type_33 : decode b_Mo_type 33 = .ok (.iload 4, 2) := by decide +kernel
theorem d_Mo_type_35 : decode b_Mo_type 35 = .ok (.iload_n 3, 1) := by decide +kernel
theorem d_Mo_type_36 : decode b_Mo_type 36 = .ok (.if_icmp .ge 46, 3) := by decide +kernel
theorem d_Mo_type_82 : decode b_Mo_type 82 = .ok (.iconst 0, 1) := by decide +kernel
theorem d_Mo_type_83 : decode b_Mo_type 83 = .ok (.istore 4, 2) := by decide +kernel
theorem d_Mo_type_39 : decode b_Mo_type 39 = .ok (.lload_n 1, 1) := by decide +kernel
theorem d_Mo_type_40 : decode b_Mo_type 40 = .ok (.bipush 8, 2) := by decide +kernel
theorem d_Mo_type_42 : decode b_Mo_type 42 = .ok (.iload 4, 2) := by decide +kernel
theorem d_Mo_type_44 : decode b_Mo_type 44 = .ok (.imul, 1) := by decide +kernel
theorem d_Mo_type_45 : decode b_Mo_type 45 = .ok (.lushr, 1) := by decide +kernel
theorem d_Mo_type_46 : decode b_Mo_type 46 = .ok (.ldc2_w 38, 3) := by decide +kernel
theorem d_Mo_type_49 : decode b_Mo_type 49 = .ok (.land, 1) := by decide +kernel
theorem d_Mo_type_50 : decode b_Mo_type 50 = .ok (.l2i, 1) := by decide +kernel
theorem d_Mo_type_51 : decode b_Mo_type 51 = .ok (.istore 5, 2) := by decide +kernel
theorem d_Mo_type_53 : decode b_Mo_type 53 = .ok (.iload 5, 2) := by decide +kernel
theorem d_Mo_type_55 : decode b_Mo_type 55 = .ok (.bipush 10, 2) := by decide +kernel
theorem d_Mo_type_57 : decode b_Mo_type 57 = .ok (.if_icmp .eq 19, 3) := by decide +kernel
theorem d_Mo_type_76 : decode b_Mo_type 76 = .ok (.iinc 4 1, 3) := by decide +kernel
theorem d_Mo_type_79 : decode b_Mo_type 79 = .ok (.goto (-46), 3) := by decide +kernel
theorem d_Mo_type_60 : decode b_Mo_type 60 = .ok (.iload 5, 2) := by decide +kernel
theorem d_Mo_type_62 : decode b_Mo_type 62 = .ok (.bipush 32, 2) := by decide +kernel
theorem d_Mo_type_64 : decode b_Mo_type 64 = .ok (.if_icmp .lt 10, 3) := by decide +kernel
theorem d_Mo_type_74 : decode b_Mo_type 74 = .ok (.iconst 0, 1) := by decide +kernel
theorem d_Mo_type_75 : decode b_Mo_type 75 = .ok (.ireturn, 1) := by decide +kernel
theorem d_Mo_type_67 : decode b_Mo_type 67 = .ok (.iload 5, 2) := by decide +kernel
theorem d_Mo_type_69 : decode b_Mo_type 69 = .ok (.bipush 126, 2) := by decide +kernel
theorem d_Mo_type_71 : decode b_Mo_type 71 = .ok (.if_icmp .le 5, 3) := by decide +kernel
theorem d_Mo_type_0 : decode b_Mo_type 0 = .ok (.aload_n 0, 1) := by decide +kernel
theorem d_Mo_type_1 : decode b_Mo_type 1 = .ok (.iconst 0, 1) := by decide +kernel
theorem d_Mo_type_2 : decode b_Mo_type 2 = .ok (.putfield 32, 3) := by decide +kernel
theorem d_Mo_type_5 : decode b_Mo_type 5 = .ok (.iload_n 3, 1) := by decide +kernel
theorem d_Mo_type_6 : decode b_Mo_type 6 = .ok (.iconst 1, 1) := by decide +kernel
theorem d_Mo_type_7 : decode b_Mo_type 7 = .ok (.if_icmp .lt 21, 3) := by decide +kernel
theorem d_Mo_type_28 : decode b_Mo_type 28 = .ok (.iconst 0, 1) := by decide +kernel
theorem d_Mo_type_29 : decode b_Mo_type 29 = .ok (.ireturn, 1) := by decide +kernel
theorem d_Mo_type_10 : decode b_Mo_type 10 = .ok (.iload_n 3, 1) := by decide +kernel
theorem d_Mo_type_11 : decode b_Mo_type 11 = .ok (.bipush 8, 2) := by decide +kernel
theorem d_Mo_type_13 : decode b_Mo_type 13 = .ok (.if_icmp .gt 15, 3) := by decide +kernel
theorem d_Mo_type_16 : decode b_Mo_type 16 = .ok (.aload_n 0, 1) := by decide +kernel
theorem d_Mo_type_17 : decode b_Mo_type 17 = .ok (.getfield 35, 3) := by decide +kernel
theorem d_Mo_type_20 : decode b_Mo_type 20 = .ok (.iload_n 3, 1) := by decide +kernel
theorem d_Mo_type_21 : decode b_Mo_type 21 = .ok (.iadd, 1) := by decide +kernel
theorem d_Mo_type_22 : decode b_Mo_type 22 = .ok (.sipush 300, 3) := by decide +kernel
theorem d_Mo_type_25 : decode b_Mo_type 25 = .ok (.if_icmp .le 5, 3) := by decide +kernel
theorem d_Mo_type_30 : decode b_Mo_type 30 = .ok (.iconst 0, 1) := by decide +kernel
theorem d_Mo_type_31 : decode b_Mo_type 31 = .ok (.istore 4, 2) := by decide +kernel
def Q_Mo_type (Γ : GE) (M : HM) (n r : Nat) (w : Int64) (k : Int) : Option Value → HM → Nat → Prop := fun v M' n' => n = n' ∧ (∀ q, q ≠ r → q ≠ r + 1 → M' q = M q) ∧ ((v = some (.int (iI 1)) ∧ typeOK w k) ∨ (v = some (.int (iI 0)) ∧ ¬ typeOK w k))
def k_Mo_type : MS := ("VaryStoreModel", b_Mo_type, 6, (some .boolean), "type", { frames := 0, cells := 0, slots := 0, locals := 0 }, [])
set_option maxRecDepth 100000 in
set_option maxHeartbeats 4000000 in
theorem c_Mo_type (Γ : GE) (r : Nat) (fa : Int) (tm : Int) (th : Int) (ev : Int64) (rq : Nat) (w : Int64) (k : Int) (f : Nat → Int32) {M : HM} {n : Nat} (ka : -2147483648 ≤ k) (kb : k < 2147483648) (p0 : M (r) = some (.inr (6, [.ref (r + 1), .int (iI (0)), .int (iI (fa)), .int (iI (tm)), .int (iI (th)), .long (ev), .ref (rq), .ref (r + 7), .int (iI (0))]))) (p1 : M (r + 1) = some (.inl (Γ.2.2.1 1, 300, .inl (f)))) : CT Γ k_Mo_type y_Mo_type [.ref (r), .long (w), .int (iI (k))] M (n) (Q_Mo_type Γ M n r w k) := by
  refine CT.of (by decide) rfl rfl 2 rfl (Nat.le_of_ble_eq_true rfl) rfl ?_
  have loop2 : 1 ≤ k → k ≤ 8 → (∀ j : Int, 0 ≤ j → j < k → okc (wbz w j)) → ∀ (kk : Nat) (i z : Int) (f1 : Nat → Int32) (M1 : HM), 0 ≤ i → i ≤ k → k - i < (kk : Int) → z = 0 → 0 ≤ z → (∀ q, q ≠ r → q ≠ r + 1 → M1 q = M q) → M1 (r) = some (.inr (6, [.ref (r + 1), .int (iI (0)), .int (iI (fa)), .int (iI (tm)), .int (iI (0)), .long (ev), .ref (rq), .ref (r + 7), .int (iI (0))])) → M1 (r + 1) = some (.inl (Γ.2.2.1 1, 300, .inl (f1))) → G Γ k_Mo_type (AA M n) (EM Γ k_Mo_type (AA M n) (Q_Mo_type Γ M n r w k)) 0 0 M1 n 85 [some (.ref (r)), some (.long (w)), none, some (.int (iI (k))), some (.int (iI (i))), none] [] := by
    intro hk1 hk8 hok kk
    induction kk with
    | zero => intro i z f1 M1 y1 y2 y3 y4 y5; omega
    | succ kk ih =>
      intro i z f1 M1 y1 y2 y3 y4 y5 hfr q0 q1
      refine g_iload d_Mo_type_85 rfl ?_
      refine g_iload_n d_Mo_type_87 rfl ?_
      refine g_icmp_ge (tgt := 125) d_Mo_type_88 (by decide) (fun h101 => ?_) (fun h101 => ?_)
      · skip
        refine g_aload_n d_Mo_type_125 rfl ?_
        refine g_dup d_Mo_type_126 rfl ?_
        refine g_get fa_Mo_35 d_Mo_type_127 q0 rfl ?_
        refine g_iload_n d_Mo_type_130 rfl ?_
        refine g_iadd d_Mo_type_131 ?_
        refine g_put fa_Mo_35 d_Mo_type_132 q0 (Nat.le_of_ble_eq_true rfl) rfl rfl rfl ?_
        refine g_iconst d_Mo_type_135 ?_
        refine g_zret (ty := .boolean) (by first | rfl | decide) d_Mo_type_136 rfl ?_ (by decide) (by decide)
        exact ⟨rfl, fun q e0 e1 => ((hu_ne (by omega)).trans (hfr q e0 e1)), Or.inl ⟨rfl, hk1, hk8, hok⟩⟩
      · skip
        refine g_aload_n d_Mo_type_91 rfl ?_
        refine g_get fa_Mo_7 d_Mo_type_92 q0 rfl ?_
        refine g_aload_n d_Mo_type_95 rfl ?_
        refine g_get fa_Mo_35 d_Mo_type_96 q0 rfl ?_
        refine g_iload d_Mo_type_99 rfl ?_
        refine g_iadd d_Mo_type_101 ?_
        refine g_lload_n d_Mo_type_102 rfl ?_
        refine g_bipush d_Mo_type_103 (by decide) ?_
        refine g_iload_n d_Mo_type_105 rfl ?_
        refine g_iconst d_Mo_type_106 ?_
        refine g_isub d_Mo_type_107 ?_
        refine g_iload d_Mo_type_108 rfl ?_
        refine g_isub d_Mo_type_110 ?_
        refine g_imul d_Mo_type_111 ?_
        refine g_lushr d_Mo_type_112 rfl ?_
        refine g_ldcL w_766 d_Mo_type_113 ?_
        refine g_land d_Mo_type_116 ?_
        refine g_l2i d_Mo_type_117 (iI_of _).symm ?_
        refine g_iast d_Mo_type_118 q1 (by omega) (by omega) (by omega) ?_
        refine g_iinc d_Mo_type_119 rfl (by decide) rfl ?_
        refine g_goto (tgt := 85) d_Mo_type_122 (by decide) ?_
        exact ih (i + 1) (0) _ _ (by omega) (by omega) (by omega) (by omega) (by omega) (fun q e0 e1 => ((hu_ne (by omega)).trans (hfr q e0 e1))) ((hu_ne (by omega)).trans q0) (hu_same _ _ _)
  have loop1 : 1 ≤ k → k ≤ 8 → ∀ (kk : Nat) (i : Int) (M1 : HM), 0 ≤ i → i ≤ k → k - i < (kk : Int) → -1 ≤ i → (∀ j : Int, 0 ≤ j → j < i → okc (wbz w j)) → (∀ q, q ≠ r → q ≠ r + 1 → M1 q = M q) → M1 (r) = some (.inr (6, [.ref (r + 1), .int (iI (0)), .int (iI (fa)), .int (iI (tm)), .int (iI (0)), .long (ev), .ref (rq), .ref (r + 7), .int (iI (0))])) → M1 (r + 1) = some (.inl (Γ.2.2.1 1, 300, .inl (f))) → G Γ k_Mo_type (AA M n) (EM Γ k_Mo_type (AA M n) (Q_Mo_type Γ M n r w k)) 0 0 M1 n 33 [some (.ref (r)), some (.long (w)), none, some (.int (iI (k))), some (.int (iI (i))), none] [] := by
    intro hk1 hk8 kk
    induction kk with
    | zero => intro i M1 y1 y2 y3; omega
    | succ kk ih =>
      intro i M1 y1 y2 y3 y4 hok hfr q0 q1
      refine g_iload d_Mo_type_33 rfl ?_
      refine g_iload_n d_Mo_type_35 rfl ?_
      refine g_icmp_ge (tgt := 82) d_Mo_type_36 (by decide) (fun h201 => ?_) (fun h201 => ?_)
      · skip
        refine g_iconst d_Mo_type_82 ?_
        refine g_istore d_Mo_type_83 (by decide) rfl ?_
        exact loop2 (by omega) (by omega) (fun j u1 u2 => hok j u1 (by omega)) 20 (0) (0) _ _ (by omega) (by omega) (by omega) (by omega) (by omega) (fun q e0 e1 => (hfr q e0 e1)) q0 q1
      · skip
        refine g_lload_n d_Mo_type_39 rfl ?_
        refine g_bipush d_Mo_type_40 (by decide) ?_
        refine g_iload d_Mo_type_42 rfl ?_
        refine g_imul d_Mo_type_44 ?_
        refine g_lushr d_Mo_type_45 rfl ?_
        refine g_ldcL w_766 d_Mo_type_46 ?_
        refine g_land d_Mo_type_49 ?_
        have hrw := wbz_rng w i
        refine g_l2i (z := wbz w i) d_Mo_type_50 (wbz_m w i) ?_
        refine g_istore d_Mo_type_51 (by decide) rfl ?_
        refine g_iload d_Mo_type_53 rfl ?_
        refine g_bipush d_Mo_type_55 (by decide) ?_
        refine g_icmp_eq (tgt := 76) d_Mo_type_57 (by decide) (fun h202 => ?_) (fun h202 => ?_)
        · skip
          refine g_iinc d_Mo_type_76 rfl (by decide) rfl ?_
          refine g_goto (tgt := 33) d_Mo_type_79 (by decide) ?_
          refine g_lv (vs' := [some (.ref (r)), some (.long (w)), none, some (.int (iI (k))), some (.int (iI (i + 1))), none]) ?_ (by intro i9 v9 h9; rcases i9 with _ | _ | _ | _ | _ | _ | i9 <;> first | exact h9 | (simp at h9))
          exact ih (i + 1) _ (by omega) (by omega) (by omega) (by omega) (fun j u1 u2 => if hj : j < i then hok j u1 hj else (show j = i by omega) ▸ (by unfold okc; omega)) (fun q e0 e1 => (hfr q e0 e1)) q0 q1
        · skip
          refine g_iload d_Mo_type_60 rfl ?_
          refine g_bipush d_Mo_type_62 (by decide) ?_
          refine g_icmp_lt (tgt := 74) d_Mo_type_64 (by decide) (fun h203 => ?_) (fun h203 => ?_)
          · skip
            refine g_iconst d_Mo_type_74 ?_
            refine g_zret (ty := .boolean) (by first | rfl | decide) d_Mo_type_75 rfl ?_ (by decide) (by decide)
            exact ⟨rfl, fun q e0 e1 => (hfr q e0 e1), Or.inr ⟨rfl, fun h => absurd (h.2.2 i (by omega) (by omega)) (by unfold okc; omega)⟩⟩
          · skip
            refine g_iload d_Mo_type_67 rfl ?_
            refine g_bipush d_Mo_type_69 (by decide) ?_
            refine g_icmp_le (tgt := 76) d_Mo_type_71 (by decide) (fun h204 => ?_) (fun h204 => ?_)
            · skip
              refine g_iinc d_Mo_type_76 rfl (by decide) rfl ?_
              refine g_goto (tgt := 33) d_Mo_type_79 (by decide) ?_
              refine g_lv (vs' := [some (.ref (r)), some (.long (w)), none, some (.int (iI (k))), some (.int (iI (i + 1))), none]) ?_ (by intro i9 v9 h9; rcases i9 with _ | _ | _ | _ | _ | _ | i9 <;> first | exact h9 | (simp at h9))
              exact ih (i + 1) _ (by omega) (by omega) (by omega) (by omega) (fun j u1 u2 => if hj : j < i then hok j u1 hj else (show j = i by omega) ▸ (by unfold okc; omega)) (fun q e0 e1 => (hfr q e0 e1)) q0 q1
            · skip
              refine g_iconst d_Mo_type_74 ?_
              refine g_zret (ty := .boolean) (by first | rfl | decide) d_Mo_type_75 rfl ?_ (by decide) (by decide)
              exact ⟨rfl, fun q e0 e1 => (hfr q e0 e1), Or.inr ⟨rfl, fun h => absurd (h.2.2 i (by omega) (by omega)) (by unfold okc; omega)⟩⟩
  refine g_aload_n d_Mo_type_0 rfl ?_
  refine g_iconst d_Mo_type_1 ?_
  refine g_put fa_Mo_32 d_Mo_type_2 p0 (Nat.le_of_ble_eq_true rfl) rfl rfl rfl ?_
  refine g_iload_n d_Mo_type_5 rfl ?_
  refine g_iconst d_Mo_type_6 ?_
  refine g_icmp_lt (tgt := 28) d_Mo_type_7 (by decide) (fun h1 => ?_) (fun h1 => ?_)
  · skip
    refine g_iconst d_Mo_type_28 ?_
    refine g_zret (ty := .boolean) (by first | rfl | decide) d_Mo_type_29 rfl ?_ (by decide) (by decide)
    exact ⟨rfl, fun q e0 e1 => ((hu_ne (by omega)).trans rfl), Or.inr ⟨rfl, fun h => by have h1 := h.1; have h2 := h.2.1; omega⟩⟩
  · skip
    refine g_iload_n d_Mo_type_10 rfl ?_
    refine g_bipush d_Mo_type_11 (by decide) ?_
    refine g_icmp_gt (tgt := 28) d_Mo_type_13 (by decide) (fun h2 => ?_) (fun h2 => ?_)
    · skip
      refine g_iconst d_Mo_type_28 ?_
      refine g_zret (ty := .boolean) (by first | rfl | decide) d_Mo_type_29 rfl ?_ (by decide) (by decide)
      exact ⟨rfl, fun q e0 e1 => ((hu_ne (by omega)).trans rfl), Or.inr ⟨rfl, fun h => by have h1 := h.1; have h2 := h.2.1; omega⟩⟩
    · skip
      refine g_aload_n d_Mo_type_16 rfl ?_
      refine g_get fa_Mo_35 d_Mo_type_17 (hu_same _ _ _) rfl ?_
      refine g_iload_n d_Mo_type_20 rfl ?_
      refine g_iadd d_Mo_type_21 ?_
      refine g_sipush d_Mo_type_22 (by decide) ?_
      refine g_icmp_le (tgt := 30) d_Mo_type_25 (by decide) (fun h3 => ?_) (fun h3 => False.elim (by omega))
      refine g_iconst d_Mo_type_30 ?_
      refine g_istore d_Mo_type_31 (by decide) rfl ?_
      exact loop1 (by omega) (by omega) 20 0 _ (by omega) (by omega) (by omega) (by omega) (fun j u1 u2 => by omega) (fun q e0 e1 => ((hu_ne (by omega)).trans rfl)) (hu_same _ _ _) ((hu_ne (by omega)).trans p1)
end
section
/-! ===== methods with a table of handlers; the law's own rows ===== -/
def R_law : String := "VaryStoreLaw"
def lw_P (b : Addr) (xs : List Int32) (args : Array Value) (s : State) : Prop := args = #[.ref b] ∧ s.IntsAt b xs ∧ xs.length ≤ 2048 ∧ (Jvm.Cond.and given_1 narrow_1).before args s = true
def lw_Q (_ : Array Value) (s : State) (o : Outcome) (t : State) : Prop := o = .returned (some (.int 1)) ∧ Framed s o t [] 601024 7293034
def lw_Z (below : List Frame) (a : Array Value) (s : State) : State → Prop := fun t => ∃ o, t.status = .running ∧ Ended t below o ∧ lw_Q a s o t
/-- the law's own end, with 1 on the stack, nothing written that was there before, its room as the claim has it -/
theorem lw_ret {p : Program} {l : Launch} {e : Env} {s : State} {m : MethodId} {below : List Frame} {meth : Method} {c : Code} {b : Nat} (hx : p.tables.exec = Jvm.exec) (hb : c.code = code) (hr : meth.sig.returnType = ret) (hlocks : meth.locks = false) {pc : Nat} {H : Heap} {ls : Array Slot} (hdg : decode code pc = .ok (.ireturn, 1)) : W p l e room_1 s m #[Value.ref b] below meth c H [] 601024 7293034 (lw_Z below #[Value.ref b] s) (F0 m pc ls [.int 1]) := by
  intro T hT X
  obtain ⟨fs, hret, hrun, hended, hW, hframe⟩ := X.leave (v := some (.int 1)) (hlocks := hlocks) (fun h => by rw [hr] at h; cases h)
  have hmeth' : T.vm.method? m = some meth := X.method'
  refine ⟨T.setFrames fs, ?_, .returned (some (.int 1)), hrun, hended, rfl, ⟨_, rfl⟩, hW, hframe⟩
  jvm_step X.here [X.here.top, hx, hb, hdg, hmeth', hr, ret, narrow_b1]
  (try refine ⟨rfl, ?_⟩); (try refine ⟨rfl, ?_⟩)
  first | (intro acts; rw [hret _ acts rfl rfl rfl]) | rw [hret _ _ rfl rfl rfl]
  exact Steps.refl _
abbrev b_law : ByteArray := code
def k_law : MS := ("VaryStoreLaw", b_law, 7, ret, "law", room_1, [])
def CTW (Γ : GE) (μ : MS) (y : MethodName) (av : List Value) (M : HM) (n : Nat) (Q : Option Value → HM → Nat → Prop) : Prop :=
  Met Γ.1 y (Cond.codeWith y μ.2.1 μ.2.2.1 μ.2.2.2.1 μ.2.2.2.2.2.2 :: TB) μ.2.2.2.2.2.1 (PC Γ av M n) (QC Γ (AA M n) Q) μ.2.2.2.2.2.1.cells μ.2.2.2.2.2.1.slots (AA M n)
theorem CTW.of {Γ : GE} {μ : MS} {y : MethodName} {av : List Value} {M : HM} {n : Nat} {Q : Option Value → HM → Nat → Prop} {vs : List (Option Value)} (hy : plainName y.cls = true) (hown : y.cls = μ.1) (hnm : y.name = μ.2.2.2.2.1) (k : Nat) (hvs : lvE av ++ List.replicate k none = vs) (hlen : (lg_sl av).length ≤ μ.2.2.1)
    (h : G Γ μ (AA M n) (EM Γ μ (AA M n) Q) 0 0 M n 0 vs []) : CTW Γ μ y av M n Q := by
  refine va_MetW (cc := μ.2.1) (maxL := μ.2.2.1) (ret := μ.2.2.2.1) (hh := μ.2.2.2.2.2.2) hy rfl ?_
  intro p e s m args below meth c s₁ B hml hv
  obtain ⟨rfl, h1, h2, h3, h4, h5⟩ := hv
  have hts := atoms_spec (ws := Cond.codeWith y μ.2.1 μ.2.2.1 μ.2.2.2.1 μ.2.2.2.2.2.2 :: TB) B.pre
  have hown' : s.vm.findClass y.cls = some m.cls := findClass_of_methodNamed B.named
  have hin : meth.name = y.name := (name_of_methodNamed B.named B.method).1
  have htab : c.exceptionTable.toList = tableOf μ.2.2.2.2.2.2 := vx_table (x := y) B (hts _ List.mem_cons_self)
  have hl := lv_entry av (n := μ.2.2.1) hlen
  rw [lg_entry_eq]
  rw [← hvs] at h
  exact h p e s m _ below meth c s.heap [] _ ⟨B.exec, B.bytes, hml, by rw [← hown]; exact hown', fun w hw => hts w (List.mem_cons_of_mem _ hw), B.returns, B.notSynchronized, hin.trans hnm, h3, fun q hq => Or.inr (by omega), h4, h5, htab⟩ h1 h2 (fun q hq => Or.inl hq) va_S.rf (LV.entry hl)
/-- the words of a static call of a method with handlers -/
def CWW (own : String) (index : Nat) (y : MethodName) (ν : MS) (na : Nat) : Prop := Cond.methodLink own index y ∈ TB ∧ Cond.initialized y.cls ∈ TB ∧ Cond.codeWith y ν.2.1 ν.2.2.1 ν.2.2.2.1 ν.2.2.2.2.2.2 ∈ TB ∧ (y.cls ≠ "java/lang/invoke/MethodHandle" ∧ y.cls ≠ "java/lang/invoke/VarHandle" ∧ (parseMethodDescriptor y.desc).map (fun d => d.parameters.length) = some na)
section LR
variable {Γ : GE} {μ ν : MS} {A : Nat → Prop} {E : List Frame → Array Value → State → State → Prop} {ce sl : Nat} {M : HM} {n pc : Nat} {vs : List (Option Value)} {st : List Value} {Q' : Option Value → HM → Nat → Prop} {y : MethodName}
theorem g_callSW3 {index : Nat} {x1 x2 x3 : Value} (hw : CWW μ.1 index y ν 3) (hs : Cond.static y ∈ TB) (hC : CTW Γ ν y [x1, x2, x3] M n Q') (hd : decode μ.2.1 pc = .ok (.invokestatic index, 3)) (hR : RM μ ν ce sl) (hcat : (st.map fun v => v.category).sum ≤ 8) (k : ∀ (v : Option Value) (M' : HM) (n' : Nat), Q' v M' n' → n ≤ n' → (∀ q, M' q ≠ none → AA M n q) → G Γ μ A E (ce + ν.2.2.2.2.2.1.cells) (sl + ν.2.2.2.2.2.1.slots) M' n' (pc + 3) vs (v.toList ++ st)) : G Γ μ A E ce sl M n pc vs (x3 :: x2 :: x1 :: st) := by
  intro p e s m args below meth c H locs ls CC h1 h2 h3 h4 h5
  obtain ⟨c1, c2, c3, c4, c5, c6, c7, c8, c9, c10, c11, c12, c13⟩ := id CC
  refine g_back (a := [x1, x2, x3].toArray) CC h2 h3 h4 h5 (vx_runSW (As := [x1, x2, x3]) (rest := st) ⟨c1, c2, c3, c4, c5⟩ hC (vx_cwSW 3 c5 (good_TB (fun w hw9 => ?_)) rfl rfl rfl hw.2.2.2 hR.1) ⟨pc_blind, g_pre CC h1 h2 h3 h4⟩ rfl rfl h5.1 rfl (lv_room hcat) hd hR.2) k
  rcases List.mem_append.mp hw9 with h | h
  · simp only [List.mem_cons, List.not_mem_nil, or_false] at h
    rcases h with rfl | rfl | rfl
    · exact hw.1
    · exact hs
    · exact hw.2.1
  · rcases List.mem_cons.mp h with h | h
    · rw [h]; exact hw.2.2.1
    · exact h
theorem g_callSW4 {index : Nat} {x1 x2 x3 x4 : Value} (hw : CWW μ.1 index y ν 4) (hs : Cond.static y ∈ TB) (hC : CTW Γ ν y [x1, x2, x3, x4] M n Q') (hd : decode μ.2.1 pc = .ok (.invokestatic index, 3)) (hR : RM μ ν ce sl) (hcat : (st.map fun v => v.category).sum ≤ 8) (k : ∀ (v : Option Value) (M' : HM) (n' : Nat), Q' v M' n' → n ≤ n' → (∀ q, M' q ≠ none → AA M n q) → G Γ μ A E (ce + ν.2.2.2.2.2.1.cells) (sl + ν.2.2.2.2.2.1.slots) M' n' (pc + 3) vs (v.toList ++ st)) : G Γ μ A E ce sl M n pc vs (x4 :: x3 :: x2 :: x1 :: st) := by
  intro p e s m args below meth c H locs ls CC h1 h2 h3 h4 h5
  obtain ⟨c1, c2, c3, c4, c5, c6, c7, c8, c9, c10, c11, c12, c13⟩ := id CC
  refine g_back (a := [x1, x2, x3, x4].toArray) CC h2 h3 h4 h5 (vx_runSW (As := [x1, x2, x3, x4]) (rest := st) ⟨c1, c2, c3, c4, c5⟩ hC (vx_cwSW 4 c5 (good_TB (fun w hw9 => ?_)) rfl rfl rfl hw.2.2.2 hR.1) ⟨pc_blind, g_pre CC h1 h2 h3 h4⟩ rfl rfl h5.1 rfl (lv_room hcat) hd hR.2) k
  rcases List.mem_append.mp hw9 with h | h
  · simp only [List.mem_cons, List.not_mem_nil, or_false] at h
    rcases h with rfl | rfl | rfl
    · exact hw.1
    · exact hs
    · exact hw.2.1
  · rcases List.mem_cons.mp h with h | h
    · rw [h]; exact hw.2.2.1
    · exact h
theorem g_tableIn {dflt lo hi : Int} {offs : Array Int} {len : Nat} {z off : Int} {tgt : Nat} (hd : decode μ.2.1 pc = .ok (.tableswitch dflt lo hi offs, len)) (z1 : -2147483648 ≤ z) (z2 : z < 2147483648) (h1 : lo ≤ z) (h2 : z ≤ hi) (ho : offs[(z - lo).toNat]? = some off) (ht : (pc : Int) + off = (tgt : Int)) (k : G Γ μ A E ce sl M n tgt vs st) : G Γ μ A E ce sl M n pc vs (.int (iI z) :: st) := by
  intro p e s m args below meth c H locs ls CC h1' h2' h3 h4 h5
  have e9 := iI_toInt z1 z2
  exact lv_tableIn CC.1 CC.2.1 hd (by rw [e9]; omega) (by rw [e9]; omega) (by rw [e9]; exact ho) ht (k p e s m args below meth c H locs ls CC h1' h2' h3 h4 h5)
theorem g_tableOut {dflt lo hi : Int} {offs : Array Int} {len : Nat} {z : Int} {tgt : Nat} (hd : decode μ.2.1 pc = .ok (.tableswitch dflt lo hi offs, len)) (z1 : -2147483648 ≤ z) (z2 : z < 2147483648) (h : z < lo ∨ hi < z) (ht : (pc : Int) + dflt = (tgt : Int)) (k : G Γ μ A E ce sl M n tgt vs st) : G Γ μ A E ce sl M n pc vs (.int (iI z) :: st) := by
  intro p e s m args below meth c H locs ls CC h1' h2' h3 h4 h5
  have e9 := iI_toInt z1 z2
  exact lv_tableOut CC.1 CC.2.1 hd (by rw [e9]; exact h) ht (k p e s m args below meth c H locs ls CC h1' h2' h3 h4 h5)
theorem g_lcmpE {x : Int64} (hd : decode μ.2.1 pc = .ok (.lcmp, 1)) (k : G Γ μ A E ce sl M n (pc + 1) vs (.int (iI 0) :: st)) : G Γ μ A E ce sl M n pc vs (.long x :: .long x :: st) := by
  intro p e s m args below meth c H locs ls CC h1 h2 h3 h4 h5
  refine W.lcmp CC.1 CC.2.1 hd ?_
  have e9 : lg_cmp x x = iI 0 := by
    unfold lg_cmp
    split
    · rename_i h; exact absurd h (by rw [gt_iff_lt]; exact Int64.lt_irrefl)
    · split
      · rfl
      · rename_i h; exact absurd rfl h
  rw [e9]
  exact k p e s m args below meth c H locs ls CC h1 h2 h3 h4 h5
/-- what the law's walk knows of its start -/
def lwP (b L n : Nat) (xs : Nat → Int32) (args : Array Value) (s : State) : Prop := args = #[Value.ref b] ∧ va_X b L xs s s.heap ∧ b < s.heap.size ∧ n = s.heap.size
def lwE (b L n : Nat) (xs : Nat → Int32) : List Frame → Array Value → State → State → Prop := fun below args s t => lwP b L n xs args s → lw_Z below args s t
def lwA (n : Nat) : Nat → Prop := fun q => n ≤ q
theorem g_slen {b L n0 : Nat} {xs : Nat → Int32} (hd : decode μ.2.1 pc = .ok (.arraylength, 1)) (k : G Γ μ (lwA n0) (lwE b L n0 xs) ce sl M n (pc + 1) vs (.int (iI (L : Nat)) :: st)) : G Γ μ (lwA n0) (lwE b L n0 xs) ce sl M n pc vs (.ref b :: st) := by
  intro p e s m args below meth c H locs ls CC h1 h2 h3 h4 h5
  intro T hT X
  by_cases hP : lwP b L n0 xs args s
  · obtain ⟨ha, hX, hb, hn⟩ := id hP
    refine va_slen CC.1 CC.2.1 hX hb (fun h => absurd (show n0 ≤ b from h) (by omega)) h4 hd ?_ T hT X
    rw [show Int32.ofNat L = iI (L : Nat) from iI_nI L]
    exact k p e s m args below meth c H locs ls CC h1 h2 h3 h4 h5
  · exact ⟨_, Steps.refl _, fun h => absurd h hP⟩
theorem g_sld {b L n0 : Nat} {xs : Nat → Int32} {i z : Int} (hd : decode μ.2.1 pc = .ok (.iaload, 1)) (i1 : 0 ≤ i) (i2 : i < (L : Nat)) (hL : L < 2147483648) (hz : xs i.toNat = iI z) (k : G Γ μ (lwA n0) (lwE b L n0 xs) ce sl M n (pc + 1) vs (.int (iI z) :: st)) : G Γ μ (lwA n0) (lwE b L n0 xs) ce sl M n pc vs (.int (iI i) :: .ref b :: st) := by
  intro p e s m args below meth c H locs ls CC h1 h2 h3 h4 h5
  intro T hT X
  by_cases hP : lwP b L n0 xs args s
  · obtain ⟨ha, hX, hb, hn⟩ := id hP
    refine va_sld CC.1 CC.2.1 hX hb (fun h => absurd (show n0 ≤ b from h) (by omega)) h4 (iI_in i1 i2 hL) hd ?_ T hT X
    rw [iI_clamp i1 (by omega), hz]
    exact k p e s m args below meth c H locs ls CC h1 h2 h3 h4 h5
  · exact ⟨_, Steps.refl _, fun h => absurd h hP⟩
end LR
theorem g_lend {Γ : GE} {ce sl : Nat} {M : HM} {n pc : Nat} {vs : List (Option Value)} {b L n0 : Nat} {xs : Nat → Int32} (hd : decode b_law pc = .ok (.ireturn, 1)) (hce : ce ≤ room_1.cells) (hsl : sl ≤ room_1.slots) : G Γ k_law (lwA n0) (lwE b L n0 xs) ce sl M n pc vs [.int (iI 1)] := by
  intro p e s m args below meth c H locs ls CC h1 h2 h3 h4 h5
  intro T hT X
  by_cases hP : lwP b L n0 xs args s
  · obtain ⟨ha, hX, hb, hn⟩ := id hP
    subst ha
    have W1 : W p Γ.1 e room_1 s m #[Value.ref b] below meth c H locs ce sl (lw_Z below #[Value.ref b] s) (F0 m pc ls [.int 1]) := W.widen hce hsl (va_forget (fun q hq => by have h9 : n0 ≤ q.base := h4.2.2 q hq; omega) (lw_ret (b := b) (l := Γ.1) (e := e) (below := below) (H := H) (ls := ls) CC.1 CC.2.1 CC.2.2.2.2.2.1 CC.2.2.2.2.2.2.1 hd))
    obtain ⟨t, a1, b1⟩ := W1 T hT X
    exact ⟨t, a1, fun _ => b1⟩
  · exact ⟨_, Steps.refl _, fun h => absurd h hP⟩
theorem and15 (x : Int32) : ∃ j : Nat, j < 16 ∧ x &&& iI 15 = iI (j : Nat) := by
  obtain ⟨j, h1, h2⟩ := pk_andE x (m := iI 15) 4 (by decide)
  exact ⟨j, h1, by rw [h2, iI_nI]⟩
theorem i32_Z (x : Int32) : ∃ z : Int, -2147483648 ≤ z ∧ z < 2147483648 ∧ x = iI z := ⟨x.toInt, by have h := Int32.le_toInt x; simpa using h, by have h := Int32.toInt_lt x; simpa using h, (iI_of x).symm⟩
end
section
theorem d_La_ask_0 : decode b_La_ask 0 = .ok (.aload_n 2, 1) := by decide +kernel
theorem d_La_ask_1 : decode b_La_ask 1 = .ok (.iconst 0, 1) := by decide +kernel
theorem d_La_ask_2 : decode b_La_ask 2 = .ok (.aload_n 0, 1) := by decide +kernel
theorem d_La_ask_3 : decode b_La_ask 3 = .ok (.iload_n 1, 1) := by decide +kernel
theorem d_La_ask_4 : decode b_La_ask 4 = .ok (.invokevirtual 7, 3) := by decide +kernel
theorem d_La_ask_12 : decode b_La_ask 12 = .ok (.astore_n 3, 1) := by decide +kernel
theorem d_La_ask_13 : decode b_La_ask 13 = .ok (.iconst 1, 1) := by decide +kernel
theorem d_La_ask_14 : decode b_La_ask 14 = .ok (.ireturn, 1) := by decide +kernel
theorem d_La_ask_7 : decode b_La_ask 7 = .ok (.i2l, 1) := by decide +kernel
theorem d_La_ask_8 : decode b_La_ask 8 = .ok (.lastore, 1) := by decide +kernel
theorem d_La_ask_9 : decode b_La_ask 9 = .ok (.goto 6, 3) := by decide +kernel
theorem d_La_ask_15 : decode b_La_ask 15 = .ok (.iconst 0, 1) := by decide +kernel
theorem d_La_ask_16 : decode b_La_ask 16 = .ok (.ireturn, 1) := by decide +kernel
theorem d_La_keep_0 : decode b_La_keep 0 = .ok (.aload_n 2, 1) := by decide +kernel
theorem d_La_keep_1 : decode b_La_keep 1 = .ok (.iconst 0, 1) := by decide +kernel
theorem d_La_keep_2 : decode b_La_keep 2 = .ok (.aload_n 0, 1) := by decide +kernel
theorem d_La_keep_3 : decode b_La_keep 3 = .ok (.iload_n 1, 1) := by decide +kernel
theorem d_La_keep_4 : decode b_La_keep 4 = .ok (.invokevirtual 15, 3) := by decide +kernel
theorem d_La_keep_19 : decode b_La_keep 19 = .ok (.astore_n 3, 1) := by decide +kernel
theorem d_La_keep_20 : decode b_La_keep 20 = .ok (.iconst 1, 1) := by decide +kernel
theorem d_La_keep_21 : decode b_La_keep 21 = .ok (.ireturn, 1) := by decide +kernel
theorem d_La_keep_7 : decode b_La_keep 7 = .ok (.ifCond .eq 7, 3) := by decide +kernel
theorem d_La_keep_14 : decode b_La_keep 14 = .ok (.lconst 0, 1) := by decide +kernel
theorem d_La_keep_15 : decode b_La_keep 15 = .ok (.lastore, 1) := by decide +kernel
theorem d_La_keep_16 : decode b_La_keep 16 = .ok (.goto 6, 3) := by decide +kernel
theorem d_La_keep_22 : decode b_La_keep 22 = .ok (.iconst 0, 1) := by decide +kernel
theorem d_La_keep_23 : decode b_La_keep 23 = .ok (.ireturn, 1) := by decide +kernel
theorem d_La_again_0 : decode b_La_again 0 = .ok (.aload_n 2, 1) := by decide +kernel
theorem d_La_again_1 : decode b_La_again 1 = .ok (.iconst 0, 1) := by decide +kernel
theorem d_La_again_2 : decode b_La_again 2 = .ok (.aload_n 0, 1) := by decide +kernel
theorem d_La_again_3 : decode b_La_again 3 = .ok (.iload_n 1, 1) := by decide +kernel
theorem d_La_again_4 : decode b_La_again 4 = .ok (.invokevirtual 19, 3) := by decide +kernel
theorem d_La_again_19 : decode b_La_again 19 = .ok (.astore_n 3, 1) := by decide +kernel
theorem d_La_again_20 : decode b_La_again 20 = .ok (.iconst 1, 1) := by decide +kernel
theorem d_La_again_21 : decode b_La_again 21 = .ok (.ireturn, 1) := by decide +kernel
theorem d_La_again_7 : decode b_La_again 7 = .ok (.ifCond .eq 7, 3) := by decide +kernel
theorem d_La_again_14 : decode b_La_again 14 = .ok (.lconst 0, 1) := by decide +kernel
theorem d_La_again_15 : decode b_La_again 15 = .ok (.lastore, 1) := by decide +kernel
theorem d_La_again_16 : decode b_La_again 16 = .ok (.goto 6, 3) := by decide +kernel
theorem d_La_again_22 : decode b_La_again 22 = .ok (.iconst 0, 1) := by decide +kernel
theorem d_La_again_23 : decode b_La_again 23 = .ok (.ireturn, 1) := by decide +kernel
theorem d_La_pass_0 : decode b_La_pass 0 = .ok (.aload_n 2, 1) := by decide +kernel
theorem d_La_pass_1 : decode b_La_pass 1 = .ok (.iconst 0, 1) := by decide +kernel
theorem d_La_pass_2 : decode b_La_pass 2 = .ok (.aload_n 0, 1) := by decide +kernel
theorem d_La_pass_3 : decode b_La_pass 3 = .ok (.iload_n 1, 1) := by decide +kernel
theorem d_La_pass_4 : decode b_La_pass 4 = .ok (.invokevirtual 22, 3) := by decide +kernel
theorem d_La_pass_12 : decode b_La_pass 12 = .ok (.astore_n 3, 1) := by decide +kernel
theorem d_La_pass_13 : decode b_La_pass 13 = .ok (.iconst 1, 1) := by decide +kernel
theorem d_La_pass_14 : decode b_La_pass 14 = .ok (.ireturn, 1) := by decide +kernel
theorem d_La_pass_7 : decode b_La_pass 7 = .ok (.i2l, 1) := by decide +kernel
theorem d_La_pass_8 : decode b_La_pass 8 = .ok (.lastore, 1) := by decide +kernel
theorem d_La_pass_9 : decode b_La_pass 9 = .ok (.goto 6, 3) := by decide +kernel
theorem d_La_pass_15 : decode b_La_pass 15 = .ok (.iconst 0, 1) := by decide +kernel
theorem d_La_pass_16 : decode b_La_pass 16 = .ok (.ireturn, 1) := by decide +kernel
theorem d_La_thing_0 : decode b_La_thing 0 = .ok (.aload_n 3, 1) := by decide +kernel
theorem d_La_thing_1 : decode b_La_thing 1 = .ok (.iconst 0, 1) := by decide +kernel
theorem d_La_thing_2 : decode b_La_thing 2 = .ok (.aload_n 0, 1) := by decide +kernel
theorem d_La_thing_3 : decode b_La_thing 3 = .ok (.iload_n 1, 1) := by decide +kernel
theorem d_La_thing_4 : decode b_La_thing 4 = .ok (.iload_n 2, 1) := by decide +kernel
theorem d_La_thing_5 : decode b_La_thing 5 = .ok (.invokevirtual 25, 3) := by decide +kernel
theorem d_La_thing_13 : decode b_La_thing 13 = .ok (.astore 4, 2) := by decide +kernel
theorem d_La_thing_15 : decode b_La_thing 15 = .ok (.iconst 1, 1) := by decide +kernel
theorem d_La_thing_16 : decode b_La_thing 16 = .ok (.ireturn, 1) := by decide +kernel
set_option maxRecDepth 20000 in
theorem w_217 : Cond.code ⟨"VaryStore", "ask", "(I)I"⟩ prog_1_method_3_code 5 (some .int) ∈ TB := tb_in 217 (by decide +kernel) (by decide +kernel)
set_option maxRecDepth 20000 in
theorem w_214 : Cond.methodLink "VaryStoreLaw" 7 ⟨"VaryStore", "ask", "(I)I"⟩ ∈ TB := tb_in 214 (by decide +kernel) (by decide +kernel)
set_option maxRecDepth 20000 in
theorem w_213 : Cond.classLink "VaryStoreLaw" 13 "java/lang/IllegalArgumentException" ∈ TB := tb_in 213 (by decide +kernel) (by decide +kernel)
set_option maxRecDepth 20000 in
theorem w_263 : Cond.castable "java/lang/IllegalArgumentException" "java/lang/IllegalArgumentException" ∈ NB := nb_in 263 (by decide +kernel) (by decide +kernel)
set_option maxRecDepth 20000 in
theorem w_215 : Cond.instanceMethod ⟨"VaryStore", "ask", "(I)I"⟩ ∈ TB := tb_in 215 (by decide +kernel) (by decide +kernel)
set_option maxRecDepth 20000 in
theorem w_216 : Cond.selects "VaryStore" ⟨"VaryStore", "ask", "(I)I"⟩ ⟨"VaryStore", "ask", "(I)I"⟩ ∈ TB := tb_in 216 (by decide +kernel) (by decide +kernel)
set_option maxRecDepth 20000 in
theorem w_509 : Cond.code ⟨"VaryStore", "keep", "(I)Z"⟩ prog_1_method_4_code 3 (some .boolean) ∈ TB := tb_in 509 (by decide +kernel) (by decide +kernel)
set_option maxRecDepth 20000 in
theorem w_506 : Cond.methodLink "VaryStoreLaw" 15 ⟨"VaryStore", "keep", "(I)Z"⟩ ∈ TB := tb_in 506 (by decide +kernel) (by decide +kernel)
set_option maxRecDepth 20000 in
theorem w_507 : Cond.instanceMethod ⟨"VaryStore", "keep", "(I)Z"⟩ ∈ TB := tb_in 507 (by decide +kernel) (by decide +kernel)
set_option maxRecDepth 20000 in
theorem w_508 : Cond.selects "VaryStore" ⟨"VaryStore", "keep", "(I)Z"⟩ ⟨"VaryStore", "keep", "(I)Z"⟩ ∈ TB := tb_in 508 (by decide +kernel) (by decide +kernel)
set_option maxRecDepth 20000 in
theorem w_651 : Cond.code ⟨"VaryStore", "again", "(I)Z"⟩ prog_1_method_5_code 4 (some .boolean) ∈ TB := tb_in 651 (by decide +kernel) (by decide +kernel)
set_option maxRecDepth 20000 in
theorem w_648 : Cond.methodLink "VaryStoreLaw" 19 ⟨"VaryStore", "again", "(I)Z"⟩ ∈ TB := tb_in 648 (by decide +kernel) (by decide +kernel)
set_option maxRecDepth 20000 in
theorem w_649 : Cond.instanceMethod ⟨"VaryStore", "again", "(I)Z"⟩ ∈ TB := tb_in 649 (by decide +kernel) (by decide +kernel)
set_option maxRecDepth 20000 in
theorem w_650 : Cond.selects "VaryStore" ⟨"VaryStore", "again", "(I)Z"⟩ ⟨"VaryStore", "again", "(I)Z"⟩ ∈ TB := tb_in 650 (by decide +kernel) (by decide +kernel)
set_option maxRecDepth 20000 in
theorem w_663 : Cond.code ⟨"VaryStore", "pass", "(I)I"⟩ prog_1_method_8_code 2 (some .int) ∈ TB := tb_in 663 (by decide +kernel) (by decide +kernel)
set_option maxRecDepth 20000 in
theorem w_660 : Cond.methodLink "VaryStoreLaw" 22 ⟨"VaryStore", "pass", "(I)I"⟩ ∈ TB := tb_in 660 (by decide +kernel) (by decide +kernel)
set_option maxRecDepth 20000 in
theorem w_661 : Cond.instanceMethod ⟨"VaryStore", "pass", "(I)I"⟩ ∈ TB := tb_in 661 (by decide +kernel) (by decide +kernel)
set_option maxRecDepth 20000 in
theorem w_662 : Cond.selects "VaryStore" ⟨"VaryStore", "pass", "(I)I"⟩ ⟨"VaryStore", "pass", "(I)I"⟩ ∈ TB := tb_in 662 (by decide +kernel) (by decide +kernel)
set_option maxRecDepth 20000 in
theorem w_674 : Cond.code ⟨"VaryStore", "thing", "(II)I"⟩ prog_1_method_9_code 4 (some .int) ∈ TB := tb_in 674 (by decide +kernel) (by decide +kernel)
set_option maxRecDepth 20000 in
theorem w_671 : Cond.methodLink "VaryStoreLaw" 25 ⟨"VaryStore", "thing", "(II)I"⟩ ∈ TB := tb_in 671 (by decide +kernel) (by decide +kernel)
set_option maxRecDepth 20000 in
theorem w_670 : Cond.classLink "VaryStoreLaw" 29 "java/util/NoSuchElementException" ∈ TB := tb_in 670 (by decide +kernel) (by decide +kernel)
set_option maxRecDepth 20000 in
theorem w_677 : Cond.castable "java/util/NoSuchElementException" "java/util/NoSuchElementException" ∈ NB := nb_in 677 (by decide +kernel) (by decide +kernel)
set_option maxRecDepth 20000 in
theorem w_672 : Cond.instanceMethod ⟨"VaryStore", "thing", "(II)I"⟩ ∈ TB := tb_in 672 (by decide +kernel) (by decide +kernel)
set_option maxRecDepth 20000 in
theorem w_673 : Cond.selects "VaryStore" ⟨"VaryStore", "thing", "(II)I"⟩ ⟨"VaryStore", "thing", "(II)I"⟩ ∈ TB := tb_in 673 (by decide +kernel) (by decide +kernel)
def k_La_ask : MS := ("VaryStoreLaw", b_La_ask, 4, (some .int), "ask", { frames := 8, cells := 1, slots := 6, locals := 177 }, [(0, 9, 12, 13)])
set_option maxRecDepth 100000 in
set_option maxHeartbeats 4000000 in
theorem c_La_ask (Γ : GE) (b : Nat) (path : Int) (o : Nat) (g : Nat → Int64) {M : HM} {n : Nat} (pa : -2147483648 ≤ path) (pb : path < 2147483648) (ho : b + 33 ≤ o) (hon : o < n) (hbn : b + 33 ≤ n) (p0 : M (b + 1) = some (.inr (2, [.ref (b + 2), .int (iI (0))]))) (p1 : M (b + 2) = some (.inl (Γ.2.2.1 0, 300, .inl (fun _ => iI 0)))) (p2 : M (b) = some (.inr (0, [.ref (b + 1), .ref (b + 3), .ref (b + 5), .ref (b + 11), .int (iI ((-1))), .int (iI (0)), .ref (b + 17), .ref (b + 19), .ref (b + 21), .ref (b + 25), .ref (b + 29)]))) (p3 : M (b + 3) = some (.inr (3, [.ref (b + 4), .int (iI (0)), .int (iI (0))]))) (p4 : M (b + 4) = some (.inl (Γ.2.2.1 2, 25, .inr (.inr (.inr (.inr (fun _ => none))))))) (p5 : M (b + 5) = some (.inr (4, [.ref (b + 6), .ref (b + 8), .ref (b + 9), .ref (b + 10), .int (iI (0))]))) (p6 : M (b + 6) = some (.inr (2, [.ref (b + 7), .int (iI (0))]))) (p7 : M (b + 7) = some (.inl (Γ.2.2.1 0, 300, .inl (fun _ => iI 0)))) (p8 : M (b + 8) = some (.inl (Γ.2.2.1 1, 100, .inl (fun _ => iI 0)))) (p9 : M (b + 9) = some (.inl (Γ.2.2.1 1, 100, .inl (fun _ => iI 0)))) (p10 : M (b + 10) = some (.inl (Γ.2.2.1 1, 100, .inl (fun _ => iI 0)))) (p11 : M (b + 11) = some (.inr (4, [.ref (b + 12), .ref (b + 14), .ref (b + 15), .ref (b + 16), .int (iI (0))]))) (p12 : M (b + 12) = some (.inr (2, [.ref (b + 13), .int (iI (0))]))) (p13 : M (b + 13) = some (.inl (Γ.2.2.1 0, 300, .inl (fun _ => iI 0)))) (p14 : M (b + 14) = some (.inl (Γ.2.2.1 1, 100, .inl (fun _ => iI 0)))) (p15 : M (b + 15) = some (.inl (Γ.2.2.1 1, 100, .inl (fun _ => iI 0)))) (p16 : M (b + 16) = some (.inl (Γ.2.2.1 1, 100, .inl (fun _ => iI 0)))) (p17 : M (b + 17) = some (.inr (2, [.ref (b + 18), .int (iI (0))]))) (p18 : M (b + 18) = some (.inl (Γ.2.2.1 0, 300, .inl (fun _ => iI 0)))) (p19 : M (b + 19) = some (.inr (2, [.ref (b + 20), .int (iI (0))]))) (p20 : M (b + 20) = some (.inl (Γ.2.2.1 0, 300, .inl (fun _ => iI 0)))) (p21 : M (b + 21) = some (.inr (1, [.ref (b + 22), .ref (b + 24), .int (iI (0))]))) (p22 : M (b + 22) = some (.inr (2, [.ref (b + 23), .int (iI (0))]))) (p23 : M (b + 23) = some (.inl (Γ.2.2.1 0, 300, .inl (fun _ => iI 0)))) (p24 : M (b + 24) = some (.inl (Γ.2.2.1 1, 150, .inl (fun _ => iI 0)))) (p25 : M (b + 25) = some (.inr (1, [.ref (b + 26), .ref (b + 28), .int (iI (0))]))) (p26 : M (b + 26) = some (.inr (2, [.ref (b + 27), .int (iI (0))]))) (p27 : M (b + 27) = some (.inl (Γ.2.2.1 0, 300, .inl (fun _ => iI 0)))) (p28 : M (b + 28) = some (.inl (Γ.2.2.1 1, 150, .inl (fun _ => iI 0)))) (p29 : M (b + 29) = some (.inr (1, [.ref (b + 30), .ref (b + 32), .int (iI (0))]))) (p30 : M (b + 30) = some (.inr (2, [.ref (b + 31), .int (iI (0))]))) (p31 : M (b + 31) = some (.inl (Γ.2.2.1 0, 300, .inl (fun _ => iI 0)))) (p32 : M (b + 32) = some (.inl (Γ.2.2.1 1, 150, .inl (fun _ => iI 0)))) (p33 : M (o) = some (.inl (Γ.2.2.1 3, 1, .inr (.inl (g))))) : CTW Γ k_La_ask y_La_ask [.ref (b), .int (iI (path)), .ref (o)] M (n) (fun v M' n' => n ≤ n' ∧ (∀ q, (q < b ∨ b + 33 ≤ q) → q < n → q ≠ o → M' q = M q) ∧ ((v = some (.int (iI 0)) ∧ M' (o) = some (.inl (Γ.2.2.1 3, 1, .inr (.inl (vp_updL g (0 : Int).toNat ((iI (0)).toInt64))))) ∧ (0 ≤ path ∧ path < 16)) ∨ (v = some (.int (iI 1)) ∧ (¬ (0 ≤ path ∧ path < 16))))) := by
  refine CTW.of (by decide) rfl rfl 1 rfl (Nat.le_of_ble_eq_true rfl) ?_
  refine g_aload_n d_La_ask_0 rfl ?_
  refine g_iconst d_La_ask_1 ?_
  refine g_aload_n d_La_ask_2 rfl ?_
  refine g_iload_n d_La_ask_3 rfl ?_
  refine g_callVC1 (ν := k_VS_ask) (x0 := (0, 9, 12, 13)) (cn := "java/lang/IllegalArgumentException") ⟨w_214, w_30, w_217, by decide, by decide, by decide +kernel⟩ w_215 w_216 (c_VS_ask Γ (b) (b + 5) (b + 11) ((-1)) (0) (path) (fun _ => iI 0) (fun _ => iI 0) (0) (0) (0) (fun _ => iI 0) (0) (b + 20) (0) (0) (b + 23) (b + 24) (0) (by omega) (by omega) (by omega) (by omega) p2 p0 p1 p11 p12 p13 p17 p18 p19 p21 p22 p3) d_La_ask_4 p2 rfl rfl ⟨⟨by decide, by decide⟩, ⟨by decide, by decide⟩⟩ (Nat.le_of_ble_eq_true rfl) rfl (by decide) (by decide) w_213 (fun C9 M9 n9 h9 => by obtain ⟨rfl, -⟩ := h9; exact w_263) (fun C1 M1x n1x q1 hX1 hn1x hd1x => ?_) (fun v1 M1 n1 hQ1 hn1 hd1 => ?_)
  · skip
    obtain ⟨-, hle1, hfx1, hcx1⟩ := hX1
    refine g_astore_n d_La_ask_12 (by decide) rfl ?_
    refine g_iconst d_La_ask_13 ?_
    refine g_iret d_La_ask_14 rfl ?_ (by decide) (by decide)
    exact ⟨by omega, fun q e0 e1 e2 => ((hfx1 q (by omega) (by omega) (by omega) (by omega) (by omega)).trans rfl), Or.inr ⟨rfl, hcx1⟩⟩
  · skip
    obtain ⟨rfl, hf1, zs1x0, fs1x1, rfl, hb1_zs1x0_0, hb1_zs1x0_1, hw1_0, hw1_1, hw1_2, hw1_3, hw1_4, hw1_5, hw1_6, hw1_7, hw1_8, hw1_9, hc1⟩ := hQ1
    refine g_i2l d_La_ask_7 rfl ?_
    refine g_last d_La_ask_8 ((hf1 (o) (by omega) (by omega) (by omega) (by omega) (by omega) (by omega) (by omega) (by omega) (by omega) (by omega)).trans p33) (by omega) (by omega) (by omega) ?_
    refine g_goto (tgt := 15) d_La_ask_9 (by decide) ?_
    refine g_iconst d_La_ask_15 ?_
    refine g_iret d_La_ask_16 rfl ?_ (by decide) (by decide)
    exact ⟨by omega, fun q e0 e1 e2 => ((hu_ne (by omega)).trans ((hf1 q (by omega) (by omega) (by omega) (by omega) (by omega) (by omega) (by omega) (by omega) (by omega) (by omega)).trans rfl)), Or.inl ⟨rfl, (hu_same _ _ _), hc1⟩⟩
def k_La_keep : MS := ("VaryStoreLaw", b_La_keep, 4, (some .int), "keep", { frames := 9, cells := 14, slots := 1383, locals := 197 }, [(0, 16, 19, 13)])
set_option maxRecDepth 100000 in
set_option maxHeartbeats 4000000 in
theorem c_La_keep (Γ : GE) (b : Nat) (path : Int) (o : Nat) (g : Nat → Int64) {M : HM} {n : Nat} (pa : -2147483648 ≤ path) (pb : path < 2147483648) (ho : b + 33 ≤ o) (hon : o < n) (hbn : b + 33 ≤ n) (p0 : M (b + 1) = some (.inr (2, [.ref (b + 2), .int (iI (0))]))) (p1 : M (b + 2) = some (.inl (Γ.2.2.1 0, 300, .inl (fun _ => iI 0)))) (p2 : M (b) = some (.inr (0, [.ref (b + 1), .ref (b + 3), .ref (b + 5), .ref (b + 11), .int (iI ((-1))), .int (iI (0)), .ref (b + 17), .ref (b + 19), .ref (b + 21), .ref (b + 25), .ref (b + 29)]))) (p3 : M (b + 3) = some (.inr (3, [.ref (b + 4), .int (iI (0)), .int (iI (0))]))) (p4 : M (b + 4) = some (.inl (Γ.2.2.1 2, 25, .inr (.inr (.inr (.inr (fun _ => none))))))) (p5 : M (b + 5) = some (.inr (4, [.ref (b + 6), .ref (b + 8), .ref (b + 9), .ref (b + 10), .int (iI (0))]))) (p6 : M (b + 6) = some (.inr (2, [.ref (b + 7), .int (iI (0))]))) (p7 : M (b + 7) = some (.inl (Γ.2.2.1 0, 300, .inl (fun _ => iI 0)))) (p8 : M (b + 8) = some (.inl (Γ.2.2.1 1, 100, .inl (fun _ => iI 0)))) (p9 : M (b + 9) = some (.inl (Γ.2.2.1 1, 100, .inl (fun _ => iI 0)))) (p10 : M (b + 10) = some (.inl (Γ.2.2.1 1, 100, .inl (fun _ => iI 0)))) (p11 : M (b + 11) = some (.inr (4, [.ref (b + 12), .ref (b + 14), .ref (b + 15), .ref (b + 16), .int (iI (0))]))) (p12 : M (b + 12) = some (.inr (2, [.ref (b + 13), .int (iI (0))]))) (p13 : M (b + 13) = some (.inl (Γ.2.2.1 0, 300, .inl (fun _ => iI 0)))) (p14 : M (b + 14) = some (.inl (Γ.2.2.1 1, 100, .inl (fun _ => iI 0)))) (p15 : M (b + 15) = some (.inl (Γ.2.2.1 1, 100, .inl (fun _ => iI 0)))) (p16 : M (b + 16) = some (.inl (Γ.2.2.1 1, 100, .inl (fun _ => iI 0)))) (p17 : M (b + 17) = some (.inr (2, [.ref (b + 18), .int (iI (0))]))) (p18 : M (b + 18) = some (.inl (Γ.2.2.1 0, 300, .inl (fun _ => iI 0)))) (p19 : M (b + 19) = some (.inr (2, [.ref (b + 20), .int (iI (0))]))) (p20 : M (b + 20) = some (.inl (Γ.2.2.1 0, 300, .inl (fun _ => iI 0)))) (p21 : M (b + 21) = some (.inr (1, [.ref (b + 22), .ref (b + 24), .int (iI (0))]))) (p22 : M (b + 22) = some (.inr (2, [.ref (b + 23), .int (iI (0))]))) (p23 : M (b + 23) = some (.inl (Γ.2.2.1 0, 300, .inl (fun _ => iI 0)))) (p24 : M (b + 24) = some (.inl (Γ.2.2.1 1, 150, .inl (fun _ => iI 0)))) (p25 : M (b + 25) = some (.inr (1, [.ref (b + 26), .ref (b + 28), .int (iI (0))]))) (p26 : M (b + 26) = some (.inr (2, [.ref (b + 27), .int (iI (0))]))) (p27 : M (b + 27) = some (.inl (Γ.2.2.1 0, 300, .inl (fun _ => iI 0)))) (p28 : M (b + 28) = some (.inl (Γ.2.2.1 1, 150, .inl (fun _ => iI 0)))) (p29 : M (b + 29) = some (.inr (1, [.ref (b + 30), .ref (b + 32), .int (iI (0))]))) (p30 : M (b + 30) = some (.inr (2, [.ref (b + 31), .int (iI (0))]))) (p31 : M (b + 31) = some (.inl (Γ.2.2.1 0, 300, .inl (fun _ => iI 0)))) (p32 : M (b + 32) = some (.inl (Γ.2.2.1 1, 150, .inl (fun _ => iI 0)))) (p33 : M (o) = some (.inl (Γ.2.2.1 3, 1, .inr (.inl (g))))) : CTW Γ k_La_keep y_La_keep [.ref (b), .int (iI (path)), .ref (o)] M (n) (fun v M' n' => n ≤ n' ∧ (∀ q, (q < b ∨ b + 33 ≤ q) → q < n → q ≠ o → M' q = M q) ∧ ((v = some (.int (iI 0)) ∧ M' (o) = some (.inl (Γ.2.2.1 3, 1, .inr (.inl (vp_updL g (0 : Int).toNat (Int64.ofNat 0))))) ∧ (0 ≤ path ∧ path < 16)) ∨ (v = some (.int (iI 1)) ∧ (¬ (0 ≤ path ∧ path < 16))))) := by
  refine CTW.of (by decide) rfl rfl 1 rfl (Nat.le_of_ble_eq_true rfl) ?_
  refine g_aload_n d_La_keep_0 rfl ?_
  refine g_iconst d_La_keep_1 ?_
  refine g_aload_n d_La_keep_2 rfl ?_
  refine g_iload_n d_La_keep_3 rfl ?_
  refine g_callVC1 (ν := k_VS_keep) (x0 := (0, 16, 19, 13)) (cn := "java/lang/IllegalArgumentException") ⟨w_506, w_30, w_509, by decide, by decide, by decide +kernel⟩ w_507 w_508 (c_VS_keep Γ (b) ((-1)) (0) (path) (0) (0) (0) (0) (0) (0) (0) (fun _ => iI 0) (fun _ => iI 0) (fun _ => iI 0) (fun _ => iI 0) (fun _ => iI 0) (fun _ => iI 0) (fun _ => iI 0) (fun _ => iI 0) (b + 23) (b + 24) (by omega) (by omega) (by omega) p2 p0 p1 p11 p12 p13 p5 p6 p7 p8 p9 p10 p17 p18 p19 p20 p21 p22 p3 p4) d_La_keep_4 p2 rfl rfl ⟨⟨by decide, by decide⟩, ⟨by decide, by decide⟩⟩ (Nat.le_of_ble_eq_true rfl) rfl (by decide) (by decide) w_213 (fun C9 M9 n9 h9 => by obtain ⟨rfl, -⟩ := h9; exact w_263) (fun C1 M1x n1x q1 hX1 hn1x hd1x => ?_) (fun v1 M1 n1 hQ1 hn1 hd1 => ?_)
  · skip
    obtain ⟨-, hle1, hfx1, hcx1⟩ := hX1
    refine g_astore_n d_La_keep_19 (by decide) rfl ?_
    refine g_iconst d_La_keep_20 ?_
    refine g_iret d_La_keep_21 rfl ?_ (by decide) (by decide)
    exact ⟨by omega, fun q e0 e1 e2 => ((hfx1 q (by omega) (by omega) (by omega) (by omega) (by omega)).trans rfl), Or.inr ⟨rfl, hcx1⟩⟩
  · skip
    obtain ⟨rfl, hf1, zs1x0, fs1x1, rfl, hb1_zs1x0_0, hb1_zs1x0_1, hw1_0, hw1_1, hw1_2, hw1_3, hw1_4, hw1_5, hw1_6, hw1_7, hw1_8, hw1_9, hw1_10, hw1_11, hw1_12, hw1_13, hw1_14, hw1_15, hw1_16, hw1_17, hw1_18, hw1_19, hw1_20, hw1_21, hw1_22, hw1_23, hc1⟩ := hQ1
    refine g_if_eq (tgt := 14) d_La_keep_7 (by decide) (fun _ => ?_) (fun h2 => False.elim (by omega))
    refine g_lconst d_La_keep_14 rfl ?_
    refine g_last d_La_keep_15 ((hf1 (o) (by omega) (by omega) (by omega) (by omega) (by omega) (by omega) (by omega) (by omega) (by omega) (by omega) (by omega) (by omega) (by omega) (by omega) (by omega) (by omega) (by omega) (by omega) (by omega) (by omega) (by omega) (by omega) (by omega) (by omega)).trans p33) (by omega) (by omega) (by omega) ?_
    refine g_goto (tgt := 22) d_La_keep_16 (by decide) ?_
    refine g_iconst d_La_keep_22 ?_
    refine g_iret d_La_keep_23 rfl ?_ (by decide) (by decide)
    exact ⟨by omega, fun q e0 e1 e2 => ((hu_ne (by omega)).trans ((hf1 q (by omega) (by omega) (by omega) (by omega) (by omega) (by omega) (by omega) (by omega) (by omega) (by omega) (by omega) (by omega) (by omega) (by omega) (by omega) (by omega) (by omega) (by omega) (by omega) (by omega) (by omega) (by omega) (by omega) (by omega)).trans rfl)), Or.inl ⟨rfl, (hu_same _ _ _), hc1⟩⟩
def k_La_again : MS := ("VaryStoreLaw", b_La_again, 4, (some .int), "again", { frames := 8, cells := 1, slots := 6, locals := 128 }, [(0, 16, 19, 13)])
set_option maxRecDepth 100000 in
set_option maxHeartbeats 4000000 in
theorem c_La_again (Γ : GE) (b : Nat) (path : Int) (o : Nat) (g : Nat → Int64) {M : HM} {n : Nat} (pa : -2147483648 ≤ path) (pb : path < 2147483648) (ho : b + 33 ≤ o) (hon : o < n) (hbn : b + 33 ≤ n) (p0 : M (b + 1) = some (.inr (2, [.ref (b + 2), .int (iI (0))]))) (p1 : M (b + 2) = some (.inl (Γ.2.2.1 0, 300, .inl (fun _ => iI 0)))) (p2 : M (b) = some (.inr (0, [.ref (b + 1), .ref (b + 3), .ref (b + 5), .ref (b + 11), .int (iI ((-1))), .int (iI (0)), .ref (b + 17), .ref (b + 19), .ref (b + 21), .ref (b + 25), .ref (b + 29)]))) (p3 : M (b + 3) = some (.inr (3, [.ref (b + 4), .int (iI (0)), .int (iI (0))]))) (p4 : M (b + 4) = some (.inl (Γ.2.2.1 2, 25, .inr (.inr (.inr (.inr (fun _ => none))))))) (p5 : M (b + 5) = some (.inr (4, [.ref (b + 6), .ref (b + 8), .ref (b + 9), .ref (b + 10), .int (iI (0))]))) (p6 : M (b + 6) = some (.inr (2, [.ref (b + 7), .int (iI (0))]))) (p7 : M (b + 7) = some (.inl (Γ.2.2.1 0, 300, .inl (fun _ => iI 0)))) (p8 : M (b + 8) = some (.inl (Γ.2.2.1 1, 100, .inl (fun _ => iI 0)))) (p9 : M (b + 9) = some (.inl (Γ.2.2.1 1, 100, .inl (fun _ => iI 0)))) (p10 : M (b + 10) = some (.inl (Γ.2.2.1 1, 100, .inl (fun _ => iI 0)))) (p11 : M (b + 11) = some (.inr (4, [.ref (b + 12), .ref (b + 14), .ref (b + 15), .ref (b + 16), .int (iI (0))]))) (p12 : M (b + 12) = some (.inr (2, [.ref (b + 13), .int (iI (0))]))) (p13 : M (b + 13) = some (.inl (Γ.2.2.1 0, 300, .inl (fun _ => iI 0)))) (p14 : M (b + 14) = some (.inl (Γ.2.2.1 1, 100, .inl (fun _ => iI 0)))) (p15 : M (b + 15) = some (.inl (Γ.2.2.1 1, 100, .inl (fun _ => iI 0)))) (p16 : M (b + 16) = some (.inl (Γ.2.2.1 1, 100, .inl (fun _ => iI 0)))) (p17 : M (b + 17) = some (.inr (2, [.ref (b + 18), .int (iI (0))]))) (p18 : M (b + 18) = some (.inl (Γ.2.2.1 0, 300, .inl (fun _ => iI 0)))) (p19 : M (b + 19) = some (.inr (2, [.ref (b + 20), .int (iI (0))]))) (p20 : M (b + 20) = some (.inl (Γ.2.2.1 0, 300, .inl (fun _ => iI 0)))) (p21 : M (b + 21) = some (.inr (1, [.ref (b + 22), .ref (b + 24), .int (iI (0))]))) (p22 : M (b + 22) = some (.inr (2, [.ref (b + 23), .int (iI (0))]))) (p23 : M (b + 23) = some (.inl (Γ.2.2.1 0, 300, .inl (fun _ => iI 0)))) (p24 : M (b + 24) = some (.inl (Γ.2.2.1 1, 150, .inl (fun _ => iI 0)))) (p25 : M (b + 25) = some (.inr (1, [.ref (b + 26), .ref (b + 28), .int (iI (0))]))) (p26 : M (b + 26) = some (.inr (2, [.ref (b + 27), .int (iI (0))]))) (p27 : M (b + 27) = some (.inl (Γ.2.2.1 0, 300, .inl (fun _ => iI 0)))) (p28 : M (b + 28) = some (.inl (Γ.2.2.1 1, 150, .inl (fun _ => iI 0)))) (p29 : M (b + 29) = some (.inr (1, [.ref (b + 30), .ref (b + 32), .int (iI (0))]))) (p30 : M (b + 30) = some (.inr (2, [.ref (b + 31), .int (iI (0))]))) (p31 : M (b + 31) = some (.inl (Γ.2.2.1 0, 300, .inl (fun _ => iI 0)))) (p32 : M (b + 32) = some (.inl (Γ.2.2.1 1, 150, .inl (fun _ => iI 0)))) (p33 : M (o) = some (.inl (Γ.2.2.1 3, 1, .inr (.inl (g))))) : CTW Γ k_La_again y_La_again [.ref (b), .int (iI (path)), .ref (o)] M (n) (fun v M' n' => n ≤ n' ∧ (∀ q, (q < b ∨ b + 33 ≤ q) → q < n → q ≠ o → M' q = M q) ∧ ((v = some (.int (iI 0)) ∧ M' (o) = some (.inl (Γ.2.2.1 3, 1, .inr (.inl (vp_updL g (0 : Int).toNat (Int64.ofNat 0))))) ∧ (0 ≤ path ∧ path < 16)) ∨ (v = some (.int (iI 1)) ∧ (¬ (0 ≤ path ∧ path < 16))))) := by
  refine CTW.of (by decide) rfl rfl 1 rfl (Nat.le_of_ble_eq_true rfl) ?_
  refine g_aload_n d_La_again_0 rfl ?_
  refine g_iconst d_La_again_1 ?_
  refine g_aload_n d_La_again_2 rfl ?_
  refine g_iload_n d_La_again_3 rfl ?_
  refine g_callVC1 (ν := k_VS_again) (x0 := (0, 16, 19, 13)) (cn := "java/lang/IllegalArgumentException") ⟨w_648, w_30, w_651, by decide, by decide, by decide +kernel⟩ w_649 w_650 (c_VS_again Γ (b) (b + 5) (b + 11) ((-1)) (0) (path) (fun _ => iI 0) (fun _ => iI 0) (0) (0) (0) (by omega) (by omega) (by omega) (by omega) p2 p0 p1 p11 p12 p13 p3) d_La_again_4 p2 rfl rfl ⟨⟨by decide, by decide⟩, ⟨by decide, by decide⟩⟩ (Nat.le_of_ble_eq_true rfl) rfl (by decide) (by decide) w_213 (fun C9 M9 n9 h9 => by obtain ⟨rfl, -⟩ := h9; exact w_263) (fun C1 M1x n1x q1 hX1 hn1x hd1x => ?_) (fun v1 M1 n1 hQ1 hn1 hd1 => ?_)
  · skip
    obtain ⟨-, hle1, hfx1, hcx1⟩ := hX1
    refine g_astore_n d_La_again_19 (by decide) rfl ?_
    refine g_iconst d_La_again_20 ?_
    refine g_iret d_La_again_21 rfl ?_ (by decide) (by decide)
    exact ⟨by omega, fun q e0 e1 e2 => ((hfx1 q (by omega) (by omega) (by omega) (by omega) (by omega)).trans rfl), Or.inr ⟨rfl, hcx1⟩⟩
  · skip
    obtain ⟨rfl, hf1, rfl, hw1_0, hw1_1, hw1_2, hw1_3, hw1_4, hc1⟩ := hQ1
    refine g_if_eq (tgt := 14) d_La_again_7 (by decide) (fun _ => ?_) (fun h2 => False.elim (by omega))
    refine g_lconst d_La_again_14 rfl ?_
    refine g_last d_La_again_15 ((hf1 (o) (by omega) (by omega) (by omega) (by omega) (by omega)).trans p33) (by omega) (by omega) (by omega) ?_
    refine g_goto (tgt := 22) d_La_again_16 (by decide) ?_
    refine g_iconst d_La_again_22 ?_
    refine g_iret d_La_again_23 rfl ?_ (by decide) (by decide)
    exact ⟨by omega, fun q e0 e1 e2 => ((hu_ne (by omega)).trans ((hf1 q (by omega) (by omega) (by omega) (by omega) (by omega)).trans rfl)), Or.inl ⟨rfl, (hu_same _ _ _), hc1⟩⟩
def k_La_pass : MS := ("VaryStoreLaw", b_La_pass, 4, (some .int), "pass", { frames := 7, cells := 1, slots := 6, locals := 103 }, [(0, 9, 12, 13)])
set_option maxRecDepth 100000 in
set_option maxHeartbeats 4000000 in
theorem c_La_pass (Γ : GE) (b : Nat) (k : Int) (o : Nat) (g : Nat → Int64) {M : HM} {n : Nat} (ka : -2147483648 ≤ k) (kb : k < 2147483648) (ho : b + 33 ≤ o) (hon : o < n) (hbn : b + 33 ≤ n) (p0 : M (b + 1) = some (.inr (2, [.ref (b + 2), .int (iI (0))]))) (p1 : M (b + 2) = some (.inl (Γ.2.2.1 0, 300, .inl (fun _ => iI 0)))) (p2 : M (b) = some (.inr (0, [.ref (b + 1), .ref (b + 3), .ref (b + 5), .ref (b + 11), .int (iI ((-1))), .int (iI (0)), .ref (b + 17), .ref (b + 19), .ref (b + 21), .ref (b + 25), .ref (b + 29)]))) (p3 : M (b + 3) = some (.inr (3, [.ref (b + 4), .int (iI (0)), .int (iI (0))]))) (p4 : M (b + 4) = some (.inl (Γ.2.2.1 2, 25, .inr (.inr (.inr (.inr (fun _ => none))))))) (p5 : M (b + 5) = some (.inr (4, [.ref (b + 6), .ref (b + 8), .ref (b + 9), .ref (b + 10), .int (iI (0))]))) (p6 : M (b + 6) = some (.inr (2, [.ref (b + 7), .int (iI (0))]))) (p7 : M (b + 7) = some (.inl (Γ.2.2.1 0, 300, .inl (fun _ => iI 0)))) (p8 : M (b + 8) = some (.inl (Γ.2.2.1 1, 100, .inl (fun _ => iI 0)))) (p9 : M (b + 9) = some (.inl (Γ.2.2.1 1, 100, .inl (fun _ => iI 0)))) (p10 : M (b + 10) = some (.inl (Γ.2.2.1 1, 100, .inl (fun _ => iI 0)))) (p11 : M (b + 11) = some (.inr (4, [.ref (b + 12), .ref (b + 14), .ref (b + 15), .ref (b + 16), .int (iI (0))]))) (p12 : M (b + 12) = some (.inr (2, [.ref (b + 13), .int (iI (0))]))) (p13 : M (b + 13) = some (.inl (Γ.2.2.1 0, 300, .inl (fun _ => iI 0)))) (p14 : M (b + 14) = some (.inl (Γ.2.2.1 1, 100, .inl (fun _ => iI 0)))) (p15 : M (b + 15) = some (.inl (Γ.2.2.1 1, 100, .inl (fun _ => iI 0)))) (p16 : M (b + 16) = some (.inl (Γ.2.2.1 1, 100, .inl (fun _ => iI 0)))) (p17 : M (b + 17) = some (.inr (2, [.ref (b + 18), .int (iI (0))]))) (p18 : M (b + 18) = some (.inl (Γ.2.2.1 0, 300, .inl (fun _ => iI 0)))) (p19 : M (b + 19) = some (.inr (2, [.ref (b + 20), .int (iI (0))]))) (p20 : M (b + 20) = some (.inl (Γ.2.2.1 0, 300, .inl (fun _ => iI 0)))) (p21 : M (b + 21) = some (.inr (1, [.ref (b + 22), .ref (b + 24), .int (iI (0))]))) (p22 : M (b + 22) = some (.inr (2, [.ref (b + 23), .int (iI (0))]))) (p23 : M (b + 23) = some (.inl (Γ.2.2.1 0, 300, .inl (fun _ => iI 0)))) (p24 : M (b + 24) = some (.inl (Γ.2.2.1 1, 150, .inl (fun _ => iI 0)))) (p25 : M (b + 25) = some (.inr (1, [.ref (b + 26), .ref (b + 28), .int (iI (0))]))) (p26 : M (b + 26) = some (.inr (2, [.ref (b + 27), .int (iI (0))]))) (p27 : M (b + 27) = some (.inl (Γ.2.2.1 0, 300, .inl (fun _ => iI 0)))) (p28 : M (b + 28) = some (.inl (Γ.2.2.1 1, 150, .inl (fun _ => iI 0)))) (p29 : M (b + 29) = some (.inr (1, [.ref (b + 30), .ref (b + 32), .int (iI (0))]))) (p30 : M (b + 30) = some (.inr (2, [.ref (b + 31), .int (iI (0))]))) (p31 : M (b + 31) = some (.inl (Γ.2.2.1 0, 300, .inl (fun _ => iI 0)))) (p32 : M (b + 32) = some (.inl (Γ.2.2.1 1, 150, .inl (fun _ => iI 0)))) (p33 : M (o) = some (.inl (Γ.2.2.1 3, 1, .inr (.inl (g))))) : CTW Γ k_La_pass y_La_pass [.ref (b), .int (iI (k)), .ref (o)] M (n) (fun v M' n' => n ≤ n' ∧ (∀ q, (q < b ∨ b + 33 ≤ q) → q < n → q ≠ o → M' q = M q) ∧ ((v = some (.int (iI 0)) ∧ M' (o) = some (.inl (Γ.2.2.1 3, 1, .inr (.inl (vp_updL g (0 : Int).toNat ((iI ((0 + k))).toInt64))))) ∧ (1 ≤ k ∧ k ≤ 100000)) ∨ (v = some (.int (iI 1)) ∧ (¬ (1 ≤ k ∧ k ≤ 100000))))) := by
  refine CTW.of (by decide) rfl rfl 1 rfl (Nat.le_of_ble_eq_true rfl) ?_
  refine g_aload_n d_La_pass_0 rfl ?_
  refine g_iconst d_La_pass_1 ?_
  refine g_aload_n d_La_pass_2 rfl ?_
  refine g_iload_n d_La_pass_3 rfl ?_
  refine g_callVC1 (ν := k_VS_pass) (x0 := (0, 9, 12, 13)) (cn := "java/lang/IllegalArgumentException") ⟨w_660, w_30, w_663, by decide, by decide, by decide +kernel⟩ w_661 w_662 (c_VS_pass Γ (b) (b + 5) (b + 11) ((-1)) (k) (by omega) (by omega) p2) d_La_pass_4 p2 rfl rfl ⟨⟨by decide, by decide⟩, ⟨by decide, by decide⟩⟩ (Nat.le_of_ble_eq_true rfl) rfl (by decide) (by decide) w_213 (fun C9 M9 n9 h9 => by obtain ⟨rfl, -⟩ := h9; exact w_263) (fun C1 M1x n1x q1 hX1 hn1x hd1x => ?_) (fun v1 M1 n1 hQ1 hn1 hd1 => ?_)
  · skip
    obtain ⟨-, hle1, hfx1, hcx1⟩ := hX1
    refine g_astore_n d_La_pass_12 (by decide) rfl ?_
    refine g_iconst d_La_pass_13 ?_
    refine g_iret d_La_pass_14 rfl ?_ (by decide) (by decide)
    exact ⟨by omega, fun q e0 e1 e2 => ((hfx1 q ).trans rfl), Or.inr ⟨rfl, hcx1⟩⟩
  · skip
    obtain ⟨rfl, hf1, rfl, hw1_0, hc1⟩ := hQ1
    refine g_i2l d_La_pass_7 rfl ?_
    refine g_last d_La_pass_8 ((hf1 (o) (by omega)).trans p33) (by omega) (by omega) (by omega) ?_
    refine g_goto (tgt := 15) d_La_pass_9 (by decide) ?_
    refine g_iconst d_La_pass_15 ?_
    refine g_iret d_La_pass_16 rfl ?_ (by decide) (by decide)
    exact ⟨by omega, fun q e0 e1 e2 => ((hu_ne (by omega)).trans ((hf1 q (by omega)).trans rfl)), Or.inl ⟨rfl, (hu_same _ _ _), hc1⟩⟩
def k_La_thing : MS := ("VaryStoreLaw", b_La_thing, 5, (some .int), "thing", { frames := 7, cells := 1, slots := 6, locals := 105 }, [(0, 10, 13, 29)])
set_option maxRecDepth 100000 in
set_option maxHeartbeats 4000000 in
theorem c_La_thing (Γ : GE) (b : Nat) (i : Int) (w : Int) (o : Nat) (g : Nat → Int64) {M : HM} {n : Nat} (i0 : -2147483648 ≤ i) (i1 : i < 2147483648) (ho : b + 33 ≤ o) (hon : o < n) (hbn : b + 33 ≤ n) (p0 : M (b + 1) = some (.inr (2, [.ref (b + 2), .int (iI (0))]))) (p1 : M (b + 2) = some (.inl (Γ.2.2.1 0, 300, .inl (fun _ => iI 0)))) (p2 : M (b) = some (.inr (0, [.ref (b + 1), .ref (b + 3), .ref (b + 5), .ref (b + 11), .int (iI ((-1))), .int (iI (0)), .ref (b + 17), .ref (b + 19), .ref (b + 21), .ref (b + 25), .ref (b + 29)]))) (p3 : M (b + 3) = some (.inr (3, [.ref (b + 4), .int (iI (0)), .int (iI (0))]))) (p4 : M (b + 4) = some (.inl (Γ.2.2.1 2, 25, .inr (.inr (.inr (.inr (fun _ => none))))))) (p5 : M (b + 5) = some (.inr (4, [.ref (b + 6), .ref (b + 8), .ref (b + 9), .ref (b + 10), .int (iI (0))]))) (p6 : M (b + 6) = some (.inr (2, [.ref (b + 7), .int (iI (0))]))) (p7 : M (b + 7) = some (.inl (Γ.2.2.1 0, 300, .inl (fun _ => iI 0)))) (p8 : M (b + 8) = some (.inl (Γ.2.2.1 1, 100, .inl (fun _ => iI 0)))) (p9 : M (b + 9) = some (.inl (Γ.2.2.1 1, 100, .inl (fun _ => iI 0)))) (p10 : M (b + 10) = some (.inl (Γ.2.2.1 1, 100, .inl (fun _ => iI 0)))) (p11 : M (b + 11) = some (.inr (4, [.ref (b + 12), .ref (b + 14), .ref (b + 15), .ref (b + 16), .int (iI (0))]))) (p12 : M (b + 12) = some (.inr (2, [.ref (b + 13), .int (iI (0))]))) (p13 : M (b + 13) = some (.inl (Γ.2.2.1 0, 300, .inl (fun _ => iI 0)))) (p14 : M (b + 14) = some (.inl (Γ.2.2.1 1, 100, .inl (fun _ => iI 0)))) (p15 : M (b + 15) = some (.inl (Γ.2.2.1 1, 100, .inl (fun _ => iI 0)))) (p16 : M (b + 16) = some (.inl (Γ.2.2.1 1, 100, .inl (fun _ => iI 0)))) (p17 : M (b + 17) = some (.inr (2, [.ref (b + 18), .int (iI (0))]))) (p18 : M (b + 18) = some (.inl (Γ.2.2.1 0, 300, .inl (fun _ => iI 0)))) (p19 : M (b + 19) = some (.inr (2, [.ref (b + 20), .int (iI (0))]))) (p20 : M (b + 20) = some (.inl (Γ.2.2.1 0, 300, .inl (fun _ => iI 0)))) (p21 : M (b + 21) = some (.inr (1, [.ref (b + 22), .ref (b + 24), .int (iI (0))]))) (p22 : M (b + 22) = some (.inr (2, [.ref (b + 23), .int (iI (0))]))) (p23 : M (b + 23) = some (.inl (Γ.2.2.1 0, 300, .inl (fun _ => iI 0)))) (p24 : M (b + 24) = some (.inl (Γ.2.2.1 1, 150, .inl (fun _ => iI 0)))) (p25 : M (b + 25) = some (.inr (1, [.ref (b + 26), .ref (b + 28), .int (iI (0))]))) (p26 : M (b + 26) = some (.inr (2, [.ref (b + 27), .int (iI (0))]))) (p27 : M (b + 27) = some (.inl (Γ.2.2.1 0, 300, .inl (fun _ => iI 0)))) (p28 : M (b + 28) = some (.inl (Γ.2.2.1 1, 150, .inl (fun _ => iI 0)))) (p29 : M (b + 29) = some (.inr (1, [.ref (b + 30), .ref (b + 32), .int (iI (0))]))) (p30 : M (b + 30) = some (.inr (2, [.ref (b + 31), .int (iI (0))]))) (p31 : M (b + 31) = some (.inl (Γ.2.2.1 0, 300, .inl (fun _ => iI 0)))) (p32 : M (b + 32) = some (.inl (Γ.2.2.1 1, 150, .inl (fun _ => iI 0)))) (p33 : M (o) = some (.inl (Γ.2.2.1 3, 1, .inr (.inl (g))))) : CTW Γ k_La_thing y_La_thing [.ref (b), .int (iI (i)), .int (iI (w)), .ref (o)] M (n) (fun v M' n' => n ≤ n' ∧ (∀ q, (q < b ∨ b + 33 ≤ q) → q < n → q ≠ o → M' q = M q) ∧ (False ∨ (v = some (.int (iI 1)) ∧ (True)))) := by
  refine CTW.of (by decide) rfl rfl 1 rfl (Nat.le_of_ble_eq_true rfl) ?_
  refine g_aload_n d_La_thing_0 rfl ?_
  refine g_iconst d_La_thing_1 ?_
  refine g_aload_n d_La_thing_2 rfl ?_
  refine g_iload_n d_La_thing_3 rfl ?_
  refine g_iload_n d_La_thing_4 rfl ?_
  refine g_callVC2 (ν := k_VS_thing) (x0 := (0, 10, 13, 29)) (cn := "java/util/NoSuchElementException") ⟨w_671, w_30, w_674, by decide, by decide, by decide +kernel⟩ w_672 w_673 (c_VS_thing Γ (b) (b + 5) (b + 11) ((-1)) (0) (i) (w) (0) (by omega) (by omega) p2 p3) d_La_thing_5 p2 rfl rfl ⟨⟨by decide, by decide⟩, ⟨by decide, by decide⟩⟩ (Nat.le_of_ble_eq_true rfl) rfl (by decide) (by decide) w_670 (fun C9 M9 n9 h9 => by obtain ⟨rfl, -⟩ := h9; exact w_677) (fun C1 M1x n1x q1 hX1 hn1x hd1x => ?_) (fun v1 M1 n1 hQ1 hn1 hd1 => ?_)
  · skip
    obtain ⟨-, hle1, hfx1, hcx1⟩ := hX1
    refine g_astore d_La_thing_13 (by decide) rfl ?_
    refine g_iconst d_La_thing_15 ?_
    refine g_iret d_La_thing_16 rfl ?_ (by decide) (by decide)
    exact ⟨by omega, fun q e0 e1 e2 => ((hfx1 q ).trans rfl), Or.inr ⟨rfl, hcx1⟩⟩
  · skip
    exact hQ1.elim
end
