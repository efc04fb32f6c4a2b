/-! ===== the layer V: one world for every method, its cells by their places; a method's own state (pc, locals, stack, world) and nothing else ===== -/
abbrev CL : List vw_C := [(RX0, TX0, 2), (RX1, TX1, 8), (RX2, TX2, 2), (RX3, TX3, 3), (RX4, TX4, 2), (RX5, TX5, 2), (RX6, TX6, 4), (RX7, TX7, 11), (RX8, TX8, 33), (RJx4a65c, TJx4a65c, 3)]
/-- the launch, the classes' numbers, the array classes (int, boolean, long, Object), what else is known of the start -/
abbrev VE : Type := Launch × va_G × (ClassId × ClassId × ClassId × ClassId) × ((Nat → Prop) → State → Prop)
abbrev cI (E : VE) : ClassId := E.2.2.1.1
abbrev cZ (E : VE) : ClassId := E.2.2.1.2.1
abbrev cJ (E : VE) : ClassId := E.2.2.1.2.2.1
abbrev cO (E : VE) : ClassId := E.2.2.1.2.2.2
abbrev TY (E : VE) : List (ClassId × FieldType) := [(cI E, .int), (cZ E, .boolean), (cJ E, .long), (cO E, .object "java/lang/Object")]
def GOK (G : (Nat → Prop) → State → Prop) : Prop := (∀ (A : Nat → Prop) (s U : State), s.vm = U.vm → s.heap = U.heap → G A s → G A U) ∧
  ∀ (A A' : Nat → Prop) (s U : State) (locs : List Loc), G A s → s.WarmedH U.vm → va_S A s.heap U.heap locs → (∀ q, A' q → q < s.heap.size → A q) → G A' U
def lvOf (L : List (Option Value)) : List (Nat × Value) := (List.range L.length).filterMap fun i => match L[i]? with
  | some (some v) => some (i, v)
  | _ => none
theorem mem_lvOf {L : List (Option Value)} {i : Nat} {v : Value} : (i, v) ∈ lvOf L ↔ L[i]? = some (some v) := by
  unfold lvOf
  rw [List.mem_filterMap]
  constructor
  · rintro ⟨j, -, hj⟩
    split at hj
    next w hw =>
      cases hj
      exact hw
    next => cases hj
  · intro h
    have hi : i < L.length := (List.getElem?_eq_some_iff.mp h).1
    refine ⟨i, List.mem_range.mpr hi, ?_⟩
    rw [h]
/-- the locals: those of L that are told are held; each takes one slot -/
def Lh (ls : Array Slot) (nL : Nat) (L : List (Option Value)) : Prop := lv_has ls nL (lvOf L) ∧ ∀ (i : Nat) (v : Value), L[i]? = some (some v) → v.category = 1
theorem Lh.at {ls : Array Slot} {nL : Nat} {L : List (Option Value)} (h : Lh ls nL L) {i : Nat} {v : Value} (hi : L[i]? = some (some v)) : ls[i]? = some (.val v) := h.1.2.2 (i, v) (mem_lvOf.mpr hi)
theorem Lh.put {ls : Array Slot} {nL : Nat} {L : List (Option Value)} {i : Nat} {v : Value} (h : Lh ls nL L) (hc : v.category = 1) {ls' : Array Slot} (hl : lv_has ls' nL ((i, v) :: (lvOf L).filter (fun q => !(q.1 == i) && !(q.1 + 1 == i && q.2.category == 2)))) : Lh ls' nL (L.set i (some v)) := by
  refine ⟨⟨hl.1, hl.2.1, fun q hq => ?_⟩, fun j w hj => ?_⟩
  · obtain ⟨j, w⟩ := q
    have hj := mem_lvOf.mp hq
    rw [List.getElem?_set] at hj
    by_cases e : i = j
    · subst e
      rw [if_pos rfl] at hj
      split at hj
      · cases hj
        exact hl.2.2 _ List.mem_cons_self
      · cases hj
    · rw [if_neg e] at hj
      refine hl.2.2 _ (List.mem_cons_of_mem _ (List.mem_filter.mpr ⟨mem_lvOf.mpr hj, ?_⟩))
      have h1 := h.2 j w hj
      have e2 : ¬ j = i := fun z => e z.symm
      simp [e2, h1]
  · rw [List.getElem?_set] at hj
    by_cases e : i = j
    · subst e
      rw [if_pos rfl] at hj
      split at hj
      · cases hj
        exact hc
      · cases hj
    · rw [if_neg e] at hj
      exact h.2 j w hj
theorem Lh.sub {ls : Array Slot} {nL : Nat} {L L' : List (Option Value)} (h : Lh ls nL L) (hs : ∀ (i : Nat) (v : Value), L'[i]? = some (some v) → L[i]? = some (some v)) : Lh ls nL L' :=
  ⟨⟨h.1.1, h.1.2.1, fun q hq => h.1.2.2 q (mem_lvOf.mpr (hs q.1 q.2 (mem_lvOf.mp hq)))⟩, fun i v hi => h.2 i v (hs i v hi)⟩
abbrev RM (fr mc ms : Nat) : Room := { frames := fr, cells := mc, slots := ms, locals := 40 * fr }
/-- the end of a method: its answer, its world -/
def Q0 (E : VE) (A : Nat → Prop) (post : Option Value → va_W → Prop) : Array Value → State → Outcome → State → Prop := fun _ st o t =>
  (∃ (v : Option Value) (ws' : va_W), o = .returned v ∧ post v ws' ∧ va_P E.2.1 CL ws' t.heap ∧ va_D A ws') ∧ va_F A st t
def Cx (E : VE) (y : MethodName) (bt : ByteArray) (nL : Nat) (rt : Option FieldType) (p : Program) (s : State) (m : MethodId) (args : Array Value) (meth : Method) (c : Code) (A : Nat → Prop) : Prop :=
  p.tables.exec = Jvm.exec ∧ c.code = bt ∧ meth.sig.returnType = rt ∧ c.maxLocals = nL ∧ s.vm.findClass y.cls = some m.cls ∧ (∀ w ∈ TB, w.before args s = true) ∧ meth.locks = false ∧ meth.name = y.name ∧ va_K E.2.1 CL (TY E) s ∧ (∀ q, s.heap.size ≤ q → A q) ∧ GOK E.2.2.2 ∧ E.2.2.2 A s
/-- the judgement: from here the method comes to its end with 'post' -/
def V (E : VE) (y : MethodName) (bt : ByteArray) (nL : Nat) (rt : Option FieldType) (fr mc ms : Nat) (post : Option Value → va_W → Prop) (pc : Nat) (L : List (Option Value)) (st : List Value) (ws : va_W) (cl sl : Nat) : Prop :=
  ∀ (p : Program) (e : Env) (s : State) (m : MethodId) (args : Array Value) (below : List Frame) (meth : Method) (c : Code) (H : Heap) (locs : List Loc) (ls : Array Slot) (A : Nat → Prop),
    Cx E y bt nL rt p s m args meth c A → Lh ls nL L → va_P E.2.1 CL ws H → va_D A ws → va_S A s.heap H locs →
    W p E.1 e (RM fr mc ms) s m args below meth c H locs cl sl (MQ below (Q0 E A post) args s mc ms A) (F0 m pc ls st)
/-- a method's contract: from the world ws, with these arguments -/
def Ct (E : VE) (y : MethodName) (bt : ByteArray) (nL : Nat) (rt : Option FieldType) (fr mc ms : Nat) (av : List Value) (ws : va_W) (post : Option Value → va_W → Prop) : Prop :=
  GOK E.2.2.2 → ∀ sz : Nat, Met E.1 y (Cond.code y bt nL rt :: TB) (RM fr mc ms) (va_Pc av (fun U => U.heap.size = sz ∧ va_P E.2.1 CL ws U.heap ∧ va_K E.2.1 CL (TY E) U ∧ va_D (fun _ => True) ws ∧ E.2.2.2 (va_A ws sz) U)) (Q0 E (va_A ws sz) post) mc ms (va_A ws sz)
-- the words of a link
def FL (own : String) (ix ci k : Nat) : Prop := ∃ (C : String) (T : u_T) (N : Nat), CL[ci]? = some (C, T, N) ∧ k < N ∧ (∀ w ∈ u_ws C T N, w ∈ TB) ∧ Cond.fieldLink own ix (T k).1 (T k).2.1 (T k).2.2.1 ∈ TB
def FP (own : String) (ix ci k : Nat) (ty : FieldType) (fin : Bool) : Prop := ∃ (C : String) (T : u_T) (N : Nat) (ty0 : Nat → FieldType), CL[ci]? = some (C, T, N) ∧ k < N ∧ (∀ w ∈ u_ws C T N, w ∈ TB) ∧ Cond.fieldLink own ix (T k).1 (T k).2.1 (T k).2.2.1 ∈ TB ∧
  (∀ j, j < N → parseFieldDescriptor (T j).2.2.1 = some (ty0 j)) ∧ (∀ a, a < N → ∀ b, b < N → a ≠ b → (T a).2.1 ≠ (T b).2.1) ∧ (T k).2.2.2 = fin ∧ parseFieldDescriptor (T k).2.2.1 = some ty ∧ (fin = true → (T k).1 = own)
def MW (y : MethodName) (bt : ByteArray) (nL : Nat) (rt : Option FieldType) (n : Nat) : Prop := Cond.code y bt nL rt ∈ TB ∧ Cond.initialized y.cls ∈ TB ∧ (y.cls ≠ "java/lang/invoke/MethodHandle" ∧ y.cls ≠ "java/lang/invoke/VarHandle" ∧ (parseMethodDescriptor y.desc).map (fun d => d.parameters.length) = some n) ∧ plainName y.cls = true
/-- a link to an instance method, to a static one, to a constructor -/
def MV (own : String) (ix : Nat) (y : MethodName) : Prop := Cond.methodLink own ix y ∈ TB ∧ Cond.instanceMethod y ∈ TB ∧ Cond.selects y.cls y y ∈ TB
def MS (own : String) (ix : Nat) (y : MethodName) : Prop := Cond.methodLink own ix y ∈ TB ∧ Cond.static y ∈ TB
def MI (own : String) (ix : Nat) (y : MethodName) : Prop := Cond.methodLink own ix y ∈ TB ∧ Cond.instanceMethod y ∈ TB ∧ y.name = "<init>"
theorem gUni {c : Cond} {y : MethodName} {bt : ByteArray} {nL : Nat} {rt : Option FieldType} (h : Cond.code y bt nL rt ∈ TB) : GoodIn (c :: TB) (Cond.code y bt nL rt :: TB) := by
  intro w hw
  rcases List.mem_cons.mp hw with rfl | hw
  · exact ⟨List.mem_cons_of_mem _ h, TB_good _ h⟩
  · exact ⟨List.mem_cons_of_mem _ hw, TB_good _ hw⟩
theorem gUni0 {y : MethodName} {bt : ByteArray} {nL : Nat} {rt : Option FieldType} (h : Cond.code y bt nL rt ∈ TB) : GoodIn TB (Cond.code y bt nL rt :: TB) := by
  intro w hw
  rcases List.mem_cons.mp hw with rfl | hw
  · exact ⟨h, TB_good _ h⟩
  · exact ⟨hw, TB_good _ hw⟩
section VR
variable {E : VE} {y : MethodName} {bt : ByteArray} {nL : Nat} {rt : Option FieldType} {fr mc ms : Nat} {post : Option Value → va_W → Prop} {pc : Nat} {L : List (Option Value)} {st : List Value} {ws : va_W} {cl sl : Nat}
theorem V_iconst {n : Int} {v : Int32} (hd : decode bt pc = .ok (.iconst n, 1)) (hv : Int32.ofInt n = v) (k : V E y bt nL rt fr mc ms post (pc + 1) (L) (.int v :: st) (ws) (cl) (sl)) : V E y bt nL rt fr mc ms post (pc) (L) (st) (ws) (cl) (sl) := by
  intro p e s m args below meth c H locs ls A C hl hP hD hS
  exact lv_iconst C.1 C.2.1 hd hv (k p e s m args below meth c H locs ls A C hl hP hD hS)

theorem V_bipush {n : Int} {v : Int32} (hd : decode bt pc = .ok (.bipush n, 2)) (hv : (Int8.ofInt n).toInt32 = v) (k : V E y bt nL rt fr mc ms post (pc + 2) (L) (.int v :: st) (ws) (cl) (sl)) : V E y bt nL rt fr mc ms post (pc) (L) (st) (ws) (cl) (sl) := by
  intro p e s m args below meth c H locs ls A C hl hP hD hS
  exact lv_bipush C.1 C.2.1 hd hv (k p e s m args below meth c H locs ls A C hl hP hD hS)

theorem V_sipush {n : Int} {v : Int32} (hd : decode bt pc = .ok (.sipush n, 3)) (hv : (Int16.ofInt n).toInt32 = v) (k : V E y bt nL rt fr mc ms post (pc + 3) (L) (.int v :: st) (ws) (cl) (sl)) : V E y bt nL rt fr mc ms post (pc) (L) (st) (ws) (cl) (sl) := by
  intro p e s m args below meth c H locs ls A C hl hP hD hS
  exact lv_sipush C.1 C.2.1 hd hv (k p e s m args below meth c H locs ls A C hl hP hD hS)

theorem V_iload_n {j : Fin 4} {x : Int32} (hd : decode bt pc = .ok (.iload_n j, 1)) (hi : L[(j : Nat)]? = some (some (.int x))) (k : V E y bt nL rt fr mc ms post (pc + 1) (L) (.int x :: st) (ws) (cl) (sl)) : V E y bt nL rt fr mc ms post (pc) (L) (st) (ws) (cl) (sl) := by
  intro p e s m args below meth c H locs ls A C hl hP hD hS
  exact lv_iload_n C.1 C.2.1 hd rfl (hl.at hi) (k p e s m args below meth c H locs ls A C hl hP hD hS)

theorem V_iload {i : Nat} {x : Int32} (hd : decode bt pc = .ok (.iload i, 2)) (hi : L[i]? = some (some (.int x))) (k : V E y bt nL rt fr mc ms post (pc + 2) (L) (.int x :: st) (ws) (cl) (sl)) : V E y bt nL rt fr mc ms post (pc) (L) (st) (ws) (cl) (sl) := by
  intro p e s m args below meth c H locs ls A C hl hP hD hS
  exact lv_iload C.1 C.2.1 hd (hl.at hi) (k p e s m args below meth c H locs ls A C hl hP hD hS)

theorem V_istore_n {j : Fin 4} {x : Int32} (hd : decode bt pc = .ok (.istore_n j, 1)) (hn : (j : Nat) < nL) (k : V E y bt nL rt fr mc ms post (pc + 1) (L.set (j : Nat) (some (.int x))) (st) (ws) (cl) (sl)) : V E y bt nL rt fr mc ms post (pc) (L) (.int x :: st) (ws) (cl) (sl) := by
  intro p e s m args below meth c H locs ls A C hl hP hD hS
  exact lv_istore_n C.1 C.2.1 hd rfl hl.1 hn rfl (fun ls h2 => k p e s m args below meth c H locs ls A C (hl.put rfl h2) hP hD hS)

theorem V_istore {i : Nat} {x : Int32} (hd : decode bt pc = .ok (.istore i, 2)) (hn : i < nL) (k : V E y bt nL rt fr mc ms post (pc + 2) (L.set i (some (.int x))) (st) (ws) (cl) (sl)) : V E y bt nL rt fr mc ms post (pc) (L) (.int x :: st) (ws) (cl) (sl) := by
  intro p e s m args below meth c H locs ls A C hl hP hD hS
  exact lv_istore C.1 C.2.1 hd hl.1 hn rfl (fun ls h2 => k p e s m args below meth c H locs ls A C (hl.put rfl h2) hP hD hS)

theorem V_aload_n {j : Fin 4} {x : Nat} (hd : decode bt pc = .ok (.aload_n j, 1)) (hi : L[(j : Nat)]? = some (some (.ref x))) (k : V E y bt nL rt fr mc ms post (pc + 1) (L) (.ref x :: st) (ws) (cl) (sl)) : V E y bt nL rt fr mc ms post (pc) (L) (st) (ws) (cl) (sl) := by
  intro p e s m args below meth c H locs ls A C hl hP hD hS
  exact lv_aload_n C.1 C.2.1 hd rfl (hl.at hi) (k p e s m args below meth c H locs ls A C hl hP hD hS)

theorem V_aload {i : Nat} {x : Nat} (hd : decode bt pc = .ok (.aload i, 2)) (hi : L[i]? = some (some (.ref x))) (k : V E y bt nL rt fr mc ms post (pc + 2) (L) (.ref x :: st) (ws) (cl) (sl)) : V E y bt nL rt fr mc ms post (pc) (L) (st) (ws) (cl) (sl) := by
  intro p e s m args below meth c H locs ls A C hl hP hD hS
  exact lv_aload C.1 C.2.1 hd (hl.at hi) (k p e s m args below meth c H locs ls A C hl hP hD hS)

theorem V_astore_n {j : Fin 4} {x : Nat} (hd : decode bt pc = .ok (.astore_n j, 1)) (hn : (j : Nat) < nL) (k : V E y bt nL rt fr mc ms post (pc + 1) (L.set (j : Nat) (some (.ref x))) (st) (ws) (cl) (sl)) : V E y bt nL rt fr mc ms post (pc) (L) (.ref x :: st) (ws) (cl) (sl) := by
  intro p e s m args below meth c H locs ls A C hl hP hD hS
  exact lv_astore_n C.1 C.2.1 hd rfl hl.1 hn rfl (fun ls h2 => k p e s m args below meth c H locs ls A C (hl.put rfl h2) hP hD hS)

theorem V_astore {i : Nat} {x : Nat} (hd : decode bt pc = .ok (.astore i, 2)) (hn : i < nL) (k : V E y bt nL rt fr mc ms post (pc + 2) (L.set i (some (.ref x))) (st) (ws) (cl) (sl)) : V E y bt nL rt fr mc ms post (pc) (L) (.ref x :: st) (ws) (cl) (sl) := by
  intro p e s m args below meth c H locs ls A C hl hP hD hS
  exact lv_astore C.1 C.2.1 hd hl.1 hn rfl (fun ls h2 => k p e s m args below meth c H locs ls A C (hl.put rfl h2) hP hD hS)

theorem V_iinc {i : Nat} {n : Int} {x v : Int32} (hd : decode bt pc = .ok (.iinc i n, 3)) (hi : L[i]? = some (some (.int x))) (hv : x + Int32.ofInt n = v) (hn : i < nL) (k : V E y bt nL rt fr mc ms post (pc + 3) (L.set i (some (.int v))) (st) (ws) (cl) (sl)) : V E y bt nL rt fr mc ms post (pc) (L) (st) (ws) (cl) (sl) := by
  intro p e s m args below meth c H locs ls A C hl hP hD hS
  obtain ⟨kx, hkx⟩ := List.getElem?_of_mem (mem_lvOf.mpr hi)
  exact lv_iinc C.1 C.2.1 hd hl.1 hkx hv hn rfl (fun ls h2 => k p e s m args below meth c H locs ls A C (hl.put rfl h2) hP hD hS)

theorem V_iadd {x z : Int32} (hd : decode bt pc = .ok (.iadd, 1)) (k : V E y bt nL rt fr mc ms post (pc + 1) (L) (.int (x + z) :: st) (ws) (cl) (sl)) : V E y bt nL rt fr mc ms post (pc) (L) (.int z :: .int x :: st) (ws) (cl) (sl) := by
  intro p e s m args below meth c H locs ls A C hl hP hD hS
  exact lv_iadd C.1 C.2.1 hd (k p e s m args below meth c H locs ls A C hl hP hD hS)

theorem V_isub {x z : Int32} (hd : decode bt pc = .ok (.isub, 1)) (k : V E y bt nL rt fr mc ms post (pc + 1) (L) (.int (x - z) :: st) (ws) (cl) (sl)) : V E y bt nL rt fr mc ms post (pc) (L) (.int z :: .int x :: st) (ws) (cl) (sl) := by
  intro p e s m args below meth c H locs ls A C hl hP hD hS
  exact lv_isub C.1 C.2.1 hd (k p e s m args below meth c H locs ls A C hl hP hD hS)

theorem V_imul {x z : Int32} (hd : decode bt pc = .ok (.imul, 1)) (k : V E y bt nL rt fr mc ms post (pc + 1) (L) (.int (x * z) :: st) (ws) (cl) (sl)) : V E y bt nL rt fr mc ms post (pc) (L) (.int z :: .int x :: st) (ws) (cl) (sl) := by
  intro p e s m args below meth c H locs ls A C hl hP hD hS
  exact lv_imul C.1 C.2.1 hd (k p e s m args below meth c H locs ls A C hl hP hD hS)

theorem V_iand {x z : Int32} (hd : decode bt pc = .ok (.iand, 1)) (k : V E y bt nL rt fr mc ms post (pc + 1) (L) (.int (x &&& z) :: st) (ws) (cl) (sl)) : V E y bt nL rt fr mc ms post (pc) (L) (.int z :: .int x :: st) (ws) (cl) (sl) := by
  intro p e s m args below meth c H locs ls A C hl hP hD hS
  exact lv_iand C.1 C.2.1 hd (k p e s m args below meth c H locs ls A C hl hP hD hS)

theorem V_ior {x z : Int32} (hd : decode bt pc = .ok (.ior, 1)) (k : V E y bt nL rt fr mc ms post (pc + 1) (L) (.int (x ||| z) :: st) (ws) (cl) (sl)) : V E y bt nL rt fr mc ms post (pc) (L) (.int z :: .int x :: st) (ws) (cl) (sl) := by
  intro p e s m args below meth c H locs ls A C hl hP hD hS
  exact lv_ior C.1 C.2.1 hd (k p e s m args below meth c H locs ls A C hl hP hD hS)

theorem V_ixor {x z : Int32} (hd : decode bt pc = .ok (.ixor, 1)) (k : V E y bt nL rt fr mc ms post (pc + 1) (L) (.int (x ^^^ z) :: st) (ws) (cl) (sl)) : V E y bt nL rt fr mc ms post (pc) (L) (.int z :: .int x :: st) (ws) (cl) (sl) := by
  intro p e s m args below meth c H locs ls A C hl hP hD hS
  exact lv_ixor C.1 C.2.1 hd (k p e s m args below meth c H locs ls A C hl hP hD hS)

theorem V_ishl {x z : Int32} (hd : decode bt pc = .ok (.ishl, 1)) (k : V E y bt nL rt fr mc ms post (pc + 1) (L) (.int (x <<< (z &&& 31)) :: st) (ws) (cl) (sl)) : V E y bt nL rt fr mc ms post (pc) (L) (.int z :: .int x :: st) (ws) (cl) (sl) := by
  intro p e s m args below meth c H locs ls A C hl hP hD hS
  exact lv_ishl C.1 C.2.1 hd (k p e s m args below meth c H locs ls A C hl hP hD hS)

theorem V_ishr {x z : Int32} (hd : decode bt pc = .ok (.ishr, 1)) (k : V E y bt nL rt fr mc ms post (pc + 1) (L) (.int (x >>> (z &&& 31)) :: st) (ws) (cl) (sl)) : V E y bt nL rt fr mc ms post (pc) (L) (.int z :: .int x :: st) (ws) (cl) (sl) := by
  intro p e s m args below meth c H locs ls A C hl hP hD hS
  exact lv_ishr C.1 C.2.1 hd (k p e s m args below meth c H locs ls A C hl hP hD hS)

theorem V_idiv {x z : Int32} (hd : decode bt pc = .ok (.idiv, 1)) (hne : ¬ z = 0) (k : V E y bt nL rt fr mc ms post (pc + 1) (L) (.int (x / z) :: st) (ws) (cl) (sl)) : V E y bt nL rt fr mc ms post (pc) (L) (.int z :: .int x :: st) (ws) (cl) (sl) := by
  intro p e s m args below meth c H locs ls A C hl hP hD hS
  exact lv_idiv C.1 C.2.1 hd hne (k p e s m args below meth c H locs ls A C hl hP hD hS)

theorem V_irem {x z : Int32} (hd : decode bt pc = .ok (.irem, 1)) (hne : ¬ z = 0) (k : V E y bt nL rt fr mc ms post (pc + 1) (L) (.int (x - x / z * z) :: st) (ws) (cl) (sl)) : V E y bt nL rt fr mc ms post (pc) (L) (.int z :: .int x :: st) (ws) (cl) (sl) := by
  intro p e s m args below meth c H locs ls A C hl hP hD hS
  exact lv_irem C.1 C.2.1 hd hne (k p e s m args below meth c H locs ls A C hl hP hD hS)

theorem V_iushr {x z v : Int32} (hd : decode bt pc = .ok (.iushr, 1)) (hv : (x.toUInt32 >>> (z.toUInt32 &&& Int32.toUInt32 31)).toInt32 = v) (k : V E y bt nL rt fr mc ms post (pc + 1) (L) (.int v :: st) (ws) (cl) (sl)) : V E y bt nL rt fr mc ms post (pc) (L) (.int z :: .int x :: st) (ws) (cl) (sl) := by
  intro p e s m args below meth c H locs ls A C hl hP hD hS
  exact lv_iushr C.1 C.2.1 hd hv (k p e s m args below meth c H locs ls A C hl hP hD hS)

theorem V_ineg {x : Int32} (hd : decode bt pc = .ok (.ineg, 1)) (k : V E y bt nL rt fr mc ms post (pc + 1) (L) (.int (-x) :: st) (ws) (cl) (sl)) : V E y bt nL rt fr mc ms post (pc) (L) (.int x :: st) (ws) (cl) (sl) := by
  intro p e s m args below meth c H locs ls A C hl hP hD hS
  exact lv_ineg C.1 C.2.1 hd (k p e s m args below meth c H locs ls A C hl hP hD hS)

theorem V_i2l {x : Int32} (hd : decode bt pc = .ok (.i2l, 1)) (k : V E y bt nL rt fr mc ms post (pc + 1) (L) (.long x.toInt64 :: st) (ws) (cl) (sl)) : V E y bt nL rt fr mc ms post (pc) (L) (.int x :: st) (ws) (cl) (sl) := by
  intro p e s m args below meth c H locs ls A C hl hP hD hS
  exact lv_i2l C.1 C.2.1 hd rfl (k p e s m args below meth c H locs ls A C hl hP hD hS)

theorem V_dup {a : Value} (hd : decode bt pc = .ok (.dup, 1)) (ha : a.category = 1) (k : V E y bt nL rt fr mc ms post (pc + 1) (L) (a :: a :: st) (ws) (cl) (sl)) : V E y bt nL rt fr mc ms post (pc) (L) (a :: st) (ws) (cl) (sl) := by
  intro p e s m args below meth c H locs ls A C hl hP hD hS
  exact lv_dup C.1 C.2.1 hd ha (k p e s m args below meth c H locs ls A C hl hP hD hS)

theorem V_pop {a : Value} (hd : decode bt pc = .ok (.pop, 1)) (ha : a.category = 1) (k : V E y bt nL rt fr mc ms post (pc + 1) (L) (st) (ws) (cl) (sl)) : V E y bt nL rt fr mc ms post (pc) (L) (a :: st) (ws) (cl) (sl) := by
  intro p e s m args below meth c H locs ls A C hl hP hD hS
  exact lv_pop C.1 C.2.1 hd ha (k p e s m args below meth c H locs ls A C hl hP hD hS)

theorem V_dup2 {a b : Value} (hd : decode bt pc = .ok (.dup2, 1)) (ha : a.category = 1) (hb : b.category = 1) (k : V E y bt nL rt fr mc ms post (pc + 1) (L) (a :: b :: a :: b :: st) (ws) (cl) (sl)) : V E y bt nL rt fr mc ms post (pc) (L) (a :: b :: st) (ws) (cl) (sl) := by
  intro p e s m args below meth c H locs ls A C hl hP hD hS
  exact lv_dup2_11 C.1 C.2.1 hd ha hb (k p e s m args below meth c H locs ls A C hl hP hD hS)

theorem V_dup_x1 {a b : Value} (hd : decode bt pc = .ok (.dup_x1, 1)) (ha : a.category = 1) (hb : b.category = 1) (k : V E y bt nL rt fr mc ms post (pc + 1) (L) (a :: b :: a :: st) (ws) (cl) (sl)) : V E y bt nL rt fr mc ms post (pc) (L) (a :: b :: st) (ws) (cl) (sl) := by
  intro p e s m args below meth c H locs ls A C hl hP hD hS
  exact lv_dup_x1 C.1 C.2.1 hd ha hb (k p e s m args below meth c H locs ls A C hl hP hD hS)

theorem V_if_eq {x : Int32} {off : Int} (tgt : Nat) (hd : decode bt pc = .ok (.ifCond .eq off, 3)) (ht : (pc : Int) + off = (tgt : Int)) (kt : x = 0 → V E y bt nL rt fr mc ms post (tgt) (L) (st) (ws) (cl) (sl)) (kf : ¬ x = 0 → V E y bt nL rt fr mc ms post (pc + 3) (L) (st) (ws) (cl) (sl)) : V E y bt nL rt fr mc ms post (pc) (L) (.int x :: st) (ws) (cl) (sl) := by
  intro p e s m args below meth c H locs ls A C hl hP hD hS
  exact lv_if_eq C.1 C.2.1 hd ht (fun h => kt h p e s m args below meth c H locs ls A C hl hP hD hS) (fun h => kf h p e s m args below meth c H locs ls A C hl hP hD hS)

theorem V_icmp_eq {x z : Int32} {off : Int} (tgt : Nat) (hd : decode bt pc = .ok (.if_icmp .eq off, 3)) (ht : (pc : Int) + off = (tgt : Int)) (kt : x = z → V E y bt nL rt fr mc ms post (tgt) (L) (st) (ws) (cl) (sl)) (kf : ¬ x = z → V E y bt nL rt fr mc ms post (pc + 3) (L) (st) (ws) (cl) (sl)) : V E y bt nL rt fr mc ms post (pc) (L) (.int z :: .int x :: st) (ws) (cl) (sl) := by
  intro p e s m args below meth c H locs ls A C hl hP hD hS
  exact lv_icmp_eq C.1 C.2.1 hd ht (fun h => kt h p e s m args below meth c H locs ls A C hl hP hD hS) (fun h => kf h p e s m args below meth c H locs ls A C hl hP hD hS)

theorem V_if_ne {x : Int32} {off : Int} (tgt : Nat) (hd : decode bt pc = .ok (.ifCond .ne off, 3)) (ht : (pc : Int) + off = (tgt : Int)) (kt : ¬ x = 0 → V E y bt nL rt fr mc ms post (tgt) (L) (st) (ws) (cl) (sl)) (kf : x = 0 → V E y bt nL rt fr mc ms post (pc + 3) (L) (st) (ws) (cl) (sl)) : V E y bt nL rt fr mc ms post (pc) (L) (.int x :: st) (ws) (cl) (sl) := by
  intro p e s m args below meth c H locs ls A C hl hP hD hS
  exact lv_if_ne C.1 C.2.1 hd ht (fun h => kt h p e s m args below meth c H locs ls A C hl hP hD hS) (fun h => kf h p e s m args below meth c H locs ls A C hl hP hD hS)

theorem V_icmp_ne {x z : Int32} {off : Int} (tgt : Nat) (hd : decode bt pc = .ok (.if_icmp .ne off, 3)) (ht : (pc : Int) + off = (tgt : Int)) (kt : ¬ x = z → V E y bt nL rt fr mc ms post (tgt) (L) (st) (ws) (cl) (sl)) (kf : x = z → V E y bt nL rt fr mc ms post (pc + 3) (L) (st) (ws) (cl) (sl)) : V E y bt nL rt fr mc ms post (pc) (L) (.int z :: .int x :: st) (ws) (cl) (sl) := by
  intro p e s m args below meth c H locs ls A C hl hP hD hS
  exact lv_icmp_ne C.1 C.2.1 hd ht (fun h => kt h p e s m args below meth c H locs ls A C hl hP hD hS) (fun h => kf h p e s m args below meth c H locs ls A C hl hP hD hS)

theorem V_if_lt {x : Int32} {off : Int} (tgt : Nat) (hd : decode bt pc = .ok (.ifCond .lt off, 3)) (ht : (pc : Int) + off = (tgt : Int)) (kt : x < 0 → V E y bt nL rt fr mc ms post (tgt) (L) (st) (ws) (cl) (sl)) (kf : ¬ x < 0 → V E y bt nL rt fr mc ms post (pc + 3) (L) (st) (ws) (cl) (sl)) : V E y bt nL rt fr mc ms post (pc) (L) (.int x :: st) (ws) (cl) (sl) := by
  intro p e s m args below meth c H locs ls A C hl hP hD hS
  exact lv_if_lt C.1 C.2.1 hd ht (fun h => kt h p e s m args below meth c H locs ls A C hl hP hD hS) (fun h => kf h p e s m args below meth c H locs ls A C hl hP hD hS)

theorem V_icmp_lt {x z : Int32} {off : Int} (tgt : Nat) (hd : decode bt pc = .ok (.if_icmp .lt off, 3)) (ht : (pc : Int) + off = (tgt : Int)) (kt : x < z → V E y bt nL rt fr mc ms post (tgt) (L) (st) (ws) (cl) (sl)) (kf : ¬ x < z → V E y bt nL rt fr mc ms post (pc + 3) (L) (st) (ws) (cl) (sl)) : V E y bt nL rt fr mc ms post (pc) (L) (.int z :: .int x :: st) (ws) (cl) (sl) := by
  intro p e s m args below meth c H locs ls A C hl hP hD hS
  exact lv_icmp_lt C.1 C.2.1 hd ht (fun h => kt h p e s m args below meth c H locs ls A C hl hP hD hS) (fun h => kf h p e s m args below meth c H locs ls A C hl hP hD hS)

theorem V_if_ge {x : Int32} {off : Int} (tgt : Nat) (hd : decode bt pc = .ok (.ifCond .ge off, 3)) (ht : (pc : Int) + off = (tgt : Int)) (kt : 0 ≤ x → V E y bt nL rt fr mc ms post (tgt) (L) (st) (ws) (cl) (sl)) (kf : ¬ 0 ≤ x → V E y bt nL rt fr mc ms post (pc + 3) (L) (st) (ws) (cl) (sl)) : V E y bt nL rt fr mc ms post (pc) (L) (.int x :: st) (ws) (cl) (sl) := by
  intro p e s m args below meth c H locs ls A C hl hP hD hS
  exact lv_if_ge C.1 C.2.1 hd ht (fun h => kt h p e s m args below meth c H locs ls A C hl hP hD hS) (fun h => kf h p e s m args below meth c H locs ls A C hl hP hD hS)

theorem V_icmp_ge {x z : Int32} {off : Int} (tgt : Nat) (hd : decode bt pc = .ok (.if_icmp .ge off, 3)) (ht : (pc : Int) + off = (tgt : Int)) (kt : z ≤ x → V E y bt nL rt fr mc ms post (tgt) (L) (st) (ws) (cl) (sl)) (kf : ¬ z ≤ x → V E y bt nL rt fr mc ms post (pc + 3) (L) (st) (ws) (cl) (sl)) : V E y bt nL rt fr mc ms post (pc) (L) (.int z :: .int x :: st) (ws) (cl) (sl) := by
  intro p e s m args below meth c H locs ls A C hl hP hD hS
  exact lv_icmp_ge C.1 C.2.1 hd ht (fun h => kt h p e s m args below meth c H locs ls A C hl hP hD hS) (fun h => kf h p e s m args below meth c H locs ls A C hl hP hD hS)

theorem V_if_gt {x : Int32} {off : Int} (tgt : Nat) (hd : decode bt pc = .ok (.ifCond .gt off, 3)) (ht : (pc : Int) + off = (tgt : Int)) (kt : 0 < x → V E y bt nL rt fr mc ms post (tgt) (L) (st) (ws) (cl) (sl)) (kf : ¬ 0 < x → V E y bt nL rt fr mc ms post (pc + 3) (L) (st) (ws) (cl) (sl)) : V E y bt nL rt fr mc ms post (pc) (L) (.int x :: st) (ws) (cl) (sl) := by
  intro p e s m args below meth c H locs ls A C hl hP hD hS
  exact lv_if_gt C.1 C.2.1 hd ht (fun h => kt h p e s m args below meth c H locs ls A C hl hP hD hS) (fun h => kf h p e s m args below meth c H locs ls A C hl hP hD hS)

theorem V_icmp_gt {x z : Int32} {off : Int} (tgt : Nat) (hd : decode bt pc = .ok (.if_icmp .gt off, 3)) (ht : (pc : Int) + off = (tgt : Int)) (kt : z < x → V E y bt nL rt fr mc ms post (tgt) (L) (st) (ws) (cl) (sl)) (kf : ¬ z < x → V E y bt nL rt fr mc ms post (pc + 3) (L) (st) (ws) (cl) (sl)) : V E y bt nL rt fr mc ms post (pc) (L) (.int z :: .int x :: st) (ws) (cl) (sl) := by
  intro p e s m args below meth c H locs ls A C hl hP hD hS
  exact lv_icmp_gt C.1 C.2.1 hd ht (fun h => kt h p e s m args below meth c H locs ls A C hl hP hD hS) (fun h => kf h p e s m args below meth c H locs ls A C hl hP hD hS)

theorem V_if_le {x : Int32} {off : Int} (tgt : Nat) (hd : decode bt pc = .ok (.ifCond .le off, 3)) (ht : (pc : Int) + off = (tgt : Int)) (kt : x ≤ 0 → V E y bt nL rt fr mc ms post (tgt) (L) (st) (ws) (cl) (sl)) (kf : ¬ x ≤ 0 → V E y bt nL rt fr mc ms post (pc + 3) (L) (st) (ws) (cl) (sl)) : V E y bt nL rt fr mc ms post (pc) (L) (.int x :: st) (ws) (cl) (sl) := by
  intro p e s m args below meth c H locs ls A C hl hP hD hS
  exact lv_if_le C.1 C.2.1 hd ht (fun h => kt h p e s m args below meth c H locs ls A C hl hP hD hS) (fun h => kf h p e s m args below meth c H locs ls A C hl hP hD hS)

theorem V_icmp_le {x z : Int32} {off : Int} (tgt : Nat) (hd : decode bt pc = .ok (.if_icmp .le off, 3)) (ht : (pc : Int) + off = (tgt : Int)) (kt : x ≤ z → V E y bt nL rt fr mc ms post (tgt) (L) (st) (ws) (cl) (sl)) (kf : ¬ x ≤ z → V E y bt nL rt fr mc ms post (pc + 3) (L) (st) (ws) (cl) (sl)) : V E y bt nL rt fr mc ms post (pc) (L) (.int z :: .int x :: st) (ws) (cl) (sl) := by
  intro p e s m args below meth c H locs ls A C hl hP hD hS
  exact lv_icmp_le C.1 C.2.1 hd ht (fun h => kt h p e s m args below meth c H locs ls A C hl hP hD hS) (fun h => kf h p e s m args below meth c H locs ls A C hl hP hD hS)

theorem V_goto {off : Int} (tgt : Nat) (hd : decode bt pc = .ok (.goto off, 3)) (ht : (pc : Int) + off = (tgt : Int)) (k : V E y bt nL rt fr mc ms post (tgt) (L) (st) (ws) (cl) (sl)) : V E y bt nL rt fr mc ms post (pc) (L) (st) (ws) (cl) (sl) := by
  intro p e s m args below meth c H locs ls A C hl hP hD hS
  exact lv_goto C.1 C.2.1 hd ht (k p e s m args below meth c H locs ls A C hl hP hD hS)

theorem V_tableIn {dflt lo hi : Int} {offs : Array Int} {len : Nat} {x : Int32} {off : Int} (tgt : Nat) (hd : decode bt pc = .ok (.tableswitch dflt lo hi offs, len)) (h1 : ¬ x.toInt < lo) (h2 : ¬ hi < x.toInt) (ho : offs[(x.toInt - lo).toNat]? = some off) (ht : (pc : Int) + off = (tgt : Int)) (k : V E y bt nL rt fr mc ms post (tgt) (L) (st) (ws) (cl) (sl)) : V E y bt nL rt fr mc ms post (pc) (L) (.int x :: st) (ws) (cl) (sl) := by
  intro p e s m args below meth c H locs ls A C hl hP hD hS
  exact lv_tableIn C.1 C.2.1 hd h1 h2 ho ht (k p e s m args below meth c H locs ls A C hl hP hD hS)

theorem V_tableOut {dflt lo hi : Int} {offs : Array Int} {len : Nat} {x : Int32} (tgt : Nat) (hd : decode bt pc = .ok (.tableswitch dflt lo hi offs, len)) (h : x.toInt < lo ∨ hi < x.toInt) (ht : (pc : Int) + dflt = (tgt : Int)) (k : V E y bt nL rt fr mc ms post (tgt) (L) (st) (ws) (cl) (sl)) : V E y bt nL rt fr mc ms post (pc) (L) (.int x :: st) (ws) (cl) (sl) := by
  intro p e s m args below meth c H locs ls A C hl hP hD hS
  exact lv_tableOut C.1 C.2.1 hd h ht (k p e s m args below meth c H locs ls A C hl hP hD hS)

theorem V_ldcw {ix : Nat} {v : Int32} (hc : Cond.constant y.cls ix v ∈ TB) (hd : decode bt pc = .ok (.ldc_w ix, 3)) (k : V E y bt nL rt fr mc ms post (pc + 3) (L) (.int v :: st) (ws) (cl) (sl)) : V E y bt nL rt fr mc ms post (pc) (L) (st) (ws) (cl) (sl) := by
  intro p e s m args below meth c H locs ls A C hl hP hD hS
  exact lv_ldcw C.1 C.2.1 C.2.2.2.2.1 (C.2.2.2.2.2.1 _ hc) hd (k p e s m args below meth c H locs ls A C hl hP hD hS)

theorem V_ldc {ix : Nat} {v : Int32} (hc : Cond.constant y.cls ix v ∈ TB) (hd : decode bt pc = .ok (.ldc ix, 2)) (k : V E y bt nL rt fr mc ms post (pc + 2) (L) (.int v :: st) (ws) (cl) (sl)) : V E y bt nL rt fr mc ms post (pc) (L) (st) (ws) (cl) (sl) := by
  intro p e s m args below meth c H locs ls A C hl hP hD hS
  exact lv_ldc C.1 C.2.1 C.2.2.2.2.1 (C.2.2.2.2.2.1 _ hc) hd (k p e s m args below meth c H locs ls A C hl hP hD hS)

theorem V_topi {x : Int32} (k : ∀ z : Int32, z = x → V E y bt nL rt fr mc ms post (pc) (L) (.int z :: st) (ws) (cl) (sl)) : V E y bt nL rt fr mc ms post (pc) (L) (.int x :: st) (ws) (cl) (sl) := by
  intro p e s m args below meth c H locs ls A C hl hP hD hS
  exact k x rfl p e s m args below meth c H locs ls A C hl hP hD hS

theorem V_get (q : Nat) {ix ci j a : Nat} {fs : List Value} {v : Value} (hF : FL y.cls ix ci j) (hd : decode bt pc = .ok (.getfield ix, 3)) (he : ws[q]? = some (a, .inr (ci, fs))) (hv : fs[j]? = some v) (k : V E y bt nL rt fr mc ms post (pc + 3) (L) (v :: st) (ws) (cl) (sl)) : V E y bt nL rt fr mc ms post (pc) (L) (.ref a :: st) (ws) (cl) (sl) := by
  intro p e s m args below meth c H locs ls A C hl hP hD hS
  obtain ⟨C9, T9, N9, hc, hk, hin, hlk⟩ := hF
  exact va_get C.1 C.2.1 C.2.2.2.2.2.1 hin C.2.2.2.2.1 C.2.2.2.2.2.2.2.2.1 hP q he hc j hk (C.2.2.2.2.2.1 _ hlk) (fun _ h9 => h9) hv hd (k p e s m args below meth c H locs ls A C hl hP hD hS)

theorem V_put (q : Nat) {ix ci j a : Nat} {fs : List Value} {v : Value} {ty : FieldType} (hF : FP y.cls ix ci j ty false) (hd : decode bt pc = .ok (.putfield ix, 3)) (he : ws[q]? = some (a, .inr (ci, fs))) (hn : narrow ty v = v) (hf : fits ty v = true) (hj : j < fs.length) (k : V E y bt nL rt fr mc ms post (pc + 3) (L) (st) (ws.set q (a, .inr (ci, fs.set j v))) (cl) (sl)) : V E y bt nL rt fr mc ms post (pc) (L) (v :: .ref a :: st) (ws) (cl) (sl) := by
  intro p e s m args below meth c H locs ls A C hl hP hD hS
  obtain ⟨C9, T9, N9, ty0, hc, hk, hin, hlk, hty, hnm, hfin, hpd, -⟩ := hF
  exact va_put C.1 C.2.1 C.2.2.2.2.2.1 hin ty0 hty hnm C.2.2.2.2.1 C.2.2.2.2.2.2.2.2.1 hP hD hS q he hc j hk (C.2.2.2.2.2.1 _ hlk) (fun _ h9 => h9) hfin hpd hn hf hj hd (fun H locs hP hD hS => k p e s m args below meth c H locs ls A C hl hP hD hS)

theorem V_putF (q : Nat) {ix ci j a : Nat} {fs : List Value} {v : Value} {ty : FieldType} (hF : FP y.cls ix ci j ty true) (hy : y.name = "<init>") (hd : decode bt pc = .ok (.putfield ix, 3)) (he : ws[q]? = some (a, .inr (ci, fs))) (hn : narrow ty v = v) (hf : fits ty v = true) (hj : j < fs.length) (k : V E y bt nL rt fr mc ms post (pc + 3) (L) (st) (ws.set q (a, .inr (ci, fs.set j v))) (cl) (sl)) : V E y bt nL rt fr mc ms post (pc) (L) (v :: .ref a :: st) (ws) (cl) (sl) := by
  intro p e s m args below meth c H locs ls A C hl hP hD hS
  obtain ⟨C9, T9, N9, ty0, hc, hk, hin, hlk, hty, hnm, hfin, hpd, hdecl⟩ := hF
  exact va_putF C.1 C.2.1 C.2.2.2.2.2.1 hin ty0 hty hnm C.2.2.2.2.1 C.2.2.2.2.2.2.2.2.1 hP hD hS q he hc j hk (C.2.2.2.2.2.1 _ hlk) (fun _ h9 => h9) hfin (C.2.2.2.2.2.2.2.1.trans hy) (hdecl rfl) hpd hn hf hj hd (fun H locs hP hD hS => k p e s m args below meth c H locs ls A C hl hP hD hS)

theorem V_iald (q : Nat) {a n : Nat} {f : Nat → Int32} {i : Int32} (hd : decode bt pc = .ok (.iaload, 1)) (he : ws[q]? = some (a, .inl (cI E, n, .inl f))) (hin : vp_in i n) (k : V E y bt nL rt fr mc ms post (pc + 1) (L) (.int (f i.toNatClampNeg) :: st) (ws) (cl) (sl)) : V E y bt nL rt fr mc ms post (pc) (L) (.int i :: .ref a :: st) (ws) (cl) (sl) := by
  intro p e s m args below meth c H locs ls A C hl hP hD hS
  exact va_iald C.1 C.2.1 C.2.2.2.2.2.2.2.2.1 hP q 0 he rfl hin hd (k p e s m args below meth c H locs ls A C hl hP hD hS)

theorem V_zald (q : Nat) {a n : Nat} {f : Nat → Int32} {i : Int32} (hd : decode bt pc = .ok (.baload, 1)) (he : ws[q]? = some (a, .inl (cZ E, n, .inl f))) (hin : vp_in i n) (k : V E y bt nL rt fr mc ms post (pc + 1) (L) (.int (f i.toNatClampNeg) :: st) (ws) (cl) (sl)) : V E y bt nL rt fr mc ms post (pc) (L) (.int i :: .ref a :: st) (ws) (cl) (sl) := by
  intro p e s m args below meth c H locs ls A C hl hP hD hS
  exact va_zald C.1 C.2.1 C.2.2.2.2.2.2.2.2.1 hP q 1 he rfl hin hd (k p e s m args below meth c H locs ls A C hl hP hD hS)

theorem V_iast (q : Nat) {a n : Nat} {f : Nat → Int32} {i x : Int32} (hd : decode bt pc = .ok (.iastore, 1)) (he : ws[q]? = some (a, .inl (cI E, n, .inl f))) (hin : vp_in i n) (k : V E y bt nL rt fr mc ms post (pc + 1) (L) (st) (ws.set q (a, .inl (cI E, n, .inl (upd f i.toNatClampNeg x)))) (cl) (sl)) : V E y bt nL rt fr mc ms post (pc) (L) (.int x :: .int i :: .ref a :: st) (ws) (cl) (sl) := by
  intro p e s m args below meth c H locs ls A C hl hP hD hS
  exact va_iast C.1 C.2.1 C.2.2.2.2.2.2.2.2.1 hP hD hS q 0 he rfl hin hd (fun H locs hP hD hS => k p e s m args below meth c H locs ls A C hl hP hD hS)

theorem V_zast (q : Nat) {a n : Nat} {f : Nat → Int32} {i x : Int32} (hd : decode bt pc = .ok (.bastore, 1)) (he : ws[q]? = some (a, .inl (cZ E, n, .inl f))) (hin : vp_in i n) (k : V E y bt nL rt fr mc ms post (pc + 1) (L) (st) (ws.set q (a, .inl (cZ E, n, .inl (upd f i.toNatClampNeg (vp_nar .boolean x))))) (cl) (sl)) : V E y bt nL rt fr mc ms post (pc) (L) (.int x :: .int i :: .ref a :: st) (ws) (cl) (sl) := by
  intro p e s m args below meth c H locs ls A C hl hP hD hS
  exact va_zast C.1 C.2.1 C.2.2.2.2.2.2.2.2.1 hP hD hS q 1 he rfl hin hd (fun H locs hP hD hS => k p e s m args below meth c H locs ls A C hl hP hD hS)

theorem V_alenI (q : Nat) {a : Nat} {x : vp_A} {v : Int32} (hd : decode bt pc = .ok (.arraylength, 1)) (he : ws[q]? = some (a, .inl (cI E, x))) (hv : Int32.ofNat x.1 = v) (k : V E y bt nL rt fr mc ms post (pc + 1) (L) (.int v :: st) (ws) (cl) (sl)) : V E y bt nL rt fr mc ms post (pc) (L) (.ref a :: st) (ws) (cl) (sl) := by
  intro p e s m args below meth c H locs ls A C hl hP hD hS
  exact va_alen C.1 C.2.1 C.2.2.2.2.2.2.2.2.1 hP q 0 he rfl hv hd (k p e s m args below meth c H locs ls A C hl hP hD hS)

theorem V_new {ix ci : Nat} {Cn : String} {T : u_T} {N : Nat} {ty : Nat → FieldType} {fs : List Value} (hin : ∀ w ∈ u_ws Cn T N, w ∈ TB) (hty : ∀ j, j < N → parseFieldDescriptor (T j).2.2.1 = some (ty j)) (hlk : Cond.classLink y.cls ix Cn ∈ TB) (hins : Cond.instantiable Cn N ∈ TB) (hini : Cond.initialized Cn ∈ TB) (hc : CL[ci]? = some (Cn, T, N)) (hfs : ∀ j, j < N → defaultValue (ty j) = vp_V fs j) (hd : decode bt pc = .ok (.new ix, 3)) (hcl : cl + 1 ≤ mc) (hsl : sl + N ≤ ms) (k : ∀ q : Nat, V E y bt nL rt fr mc ms post (pc + 3) (L) (.ref q :: st) (ws ++ [(q, .inr (ci, fs))]) (cl + 1) (sl + N)) : V E y bt nL rt fr mc ms post (pc) (L) (st) (ws) (cl) (sl) := by
  intro p e s m args below meth c H locs ls A C hl hP hD hS
  exact va_new C.1 C.2.1 C.2.2.2.2.2.1 hin ty hty C.2.2.2.2.1 (C.2.2.2.2.2.1 _ hlk) (C.2.2.2.2.2.1 _ hins) (C.2.2.2.2.2.1 _ hini) C.2.2.2.2.2.2.2.2.1 hP hD hS C.2.2.2.2.2.2.2.2.2.1 hc hfs hcl hsl hd (fun q H hP hD hS => k q p e s m args below meth c H locs ls A C hl hP hD hS)

theorem V_newaI {n : Int32} {N : Nat} (harr : Cond.arrayClass .int ∈ TB) (hd : decode bt pc = .ok (.newarray .int, 2)) (hn : ¬ n < 0) (hN : n.toNatClampNeg = N) (hb : N * componentBytes .int ≤ 536870912) (hcl : cl + 1 ≤ mc) (hsl : sl + N ≤ ms) (k : ∀ q : Nat, V E y bt nL rt fr mc ms post (pc + 2) (L) (.ref q :: st) (ws ++ [(q, .inl (cI E, N, .inl (fun _ => 0)))]) (cl + 1) (sl + N)) : V E y bt nL rt fr mc ms post (pc) (L) (.int n :: st) (ws) (cl) (sl) := by
  intro p e s m args below meth c H locs ls A C hl hP hD hS
  refine va_newa (atype := .int) (ty := .int) (a0 := (N, .inl (fun _ => 0))) C.1 C.2.1 (C.2.2.2.2.2.1 _ harr) rfl C.2.2.2.2.2.2.2.2.1 hP hD hS C.2.2.2.2.2.2.2.2.2.1 (fun _ => rfl) hn hN hb hcl hsl hd (fun q cA H hK hP hD hS => ?_)
  have e1 := (hK.2 4 (cA, .int) rfl).2
  have e2 := (hK.2 0 (cI E, .int) rfl).2
  have e3 : cA = cI E := Option.some.inj (e1.symm.trans e2)
  subst e3
  exact k q p e s m args below meth c H locs ls A C hl hP hD hS

theorem V_newaZ {n : Int32} {N : Nat} (harr : Cond.arrayClass .boolean ∈ TB) (hd : decode bt pc = .ok (.newarray .boolean, 2)) (hn : ¬ n < 0) (hN : n.toNatClampNeg = N) (hb : N * componentBytes .boolean ≤ 536870912) (hcl : cl + 1 ≤ mc) (hsl : sl + N ≤ ms) (k : ∀ q : Nat, V E y bt nL rt fr mc ms post (pc + 2) (L) (.ref q :: st) (ws ++ [(q, .inl (cZ E, N, .inl (fun _ => 0)))]) (cl + 1) (sl + N)) : V E y bt nL rt fr mc ms post (pc) (L) (.int n :: st) (ws) (cl) (sl) := by
  intro p e s m args below meth c H locs ls A C hl hP hD hS
  refine va_newa (atype := .boolean) (ty := .boolean) (a0 := (N, .inl (fun _ => 0))) C.1 C.2.1 (C.2.2.2.2.2.1 _ harr) rfl C.2.2.2.2.2.2.2.2.1 hP hD hS C.2.2.2.2.2.2.2.2.2.1 (fun _ => rfl) hn hN hb hcl hsl hd (fun q cA H hK hP hD hS => ?_)
  have e1 := (hK.2 4 (cA, .boolean) rfl).2
  have e2 := (hK.2 1 (cZ E, .boolean) rfl).2
  have e3 : cA = cZ E := Option.some.inj (e1.symm.trans e2)
  subst e3
  exact k q p e s m args below meth c H locs ls A C hl hP hD hS

theorem V_newaJ {n : Int32} {N : Nat} (harr : Cond.arrayClass .long ∈ TB) (hd : decode bt pc = .ok (.newarray .long, 2)) (hn : ¬ n < 0) (hN : n.toNatClampNeg = N) (hb : N * componentBytes .long ≤ 536870912) (hcl : cl + 1 ≤ mc) (hsl : sl + N ≤ ms) (k : ∀ q : Nat, V E y bt nL rt fr mc ms post (pc + 2) (L) (.ref q :: st) (ws ++ [(q, .inl (cJ E, N, .inr (.inl (fun _ => 0))))]) (cl + 1) (sl + N)) : V E y bt nL rt fr mc ms post (pc) (L) (.int n :: st) (ws) (cl) (sl) := by
  intro p e s m args below meth c H locs ls A C hl hP hD hS
  refine va_newa (atype := .long) (ty := .long) (a0 := (N, .inr (.inl (fun _ => 0)))) C.1 C.2.1 (C.2.2.2.2.2.1 _ harr) rfl C.2.2.2.2.2.2.2.2.1 hP hD hS C.2.2.2.2.2.2.2.2.2.1 (fun _ => rfl) hn hN hb hcl hsl hd (fun q cA H hK hP hD hS => ?_)
  have e1 := (hK.2 4 (cA, .long) rfl).2
  have e2 := (hK.2 2 (cJ E, .long) rfl).2
  have e3 : cA = cJ E := Option.some.inj (e1.symm.trans e2)
  subst e3
  exact k q p e s m args below meth c H locs ls A C hl hP hD hS

theorem V_objInit {ix a : Nat} (hlk : Cond.methodLink y.cls ix objectInit ∈ TB) (hi : Cond.instanceMethod objectInit ∈ TB) (hc : Cond.code objectInit ⟨#[0xb1]⟩ 1 none ∈ TB) (hd : decode bt pc = .ok (.invokespecial ix, 3)) (hfr : 1 ≤ fr) (hW : (st.map fun v => v.category).sum ≤ 8) (k : V E y bt nL rt fr mc ms post (pc + 3) (L) (st) (ws) (cl) (sl)) : V E y bt nL rt fr mc ms post (pc) (L) (.ref a :: st) (ws) (cl) (sl) := by
  intro p e s m args below meth c H locs ls A C hl hP hD hS
  refine W.objInit C.1 C.2.1 C.2.2.2.2.1 (C.2.2.2.2.2.1 _ hlk) (C.2.2.2.2.2.1 _ hi) (C.2.2.2.2.2.1 _ hc) rfl (by rw [C.2.2.2.1]; exact hl.1.1) rfl hd hfr ?_ (k p e s m args below meth c H locs ls A C hl hP hD hS)
  show 2 * 0 + _ + 12 ≤ 40 * fr
  omega

theorem V_iret {v : Int32} (hd : decode bt pc = .ok (.ireturn, 1)) (hrt : rt = some .int) (hcl : cl ≤ mc) (hsl : sl ≤ ms) (hpost : post (some (.int v)) ws) : V E y bt nL rt fr mc ms post (pc) (L) ([.int v]) (ws) (cl) (sl) := by
  intro p e s m args below meth c H locs ls A C hl hP hD hS
  have hlk := C.2.2.2.2.2.2.1
  refine W.widen hcl hsl ?_
  exact W.iret C.1 C.2.1 (C.2.2.1.trans hrt) (fun t ht _ => ⟨⟨_, ws, rfl, hpost, by rw [ht]; exact hP, hD⟩, hS.F ht⟩) hS.2.2 hd hlk

theorem V_zret {v : Int32} (hd : decode bt pc = .ok (.ireturn, 1)) (hrt : rt = some .boolean) (hv : v = 0 ∨ v = 1) (hcl : cl ≤ mc) (hsl : sl ≤ ms) (hpost : post (some (.int v)) ws) : V E y bt nL rt fr mc ms post (pc) (L) ([.int v]) (ws) (cl) (sl) := by
  intro p e s m args below meth c H locs ls A C hl hP hD hS
  have hlk := C.2.2.2.2.2.2.1
  refine W.widen hcl hsl ?_
  exact W.zret C.1 C.2.1 (C.2.2.1.trans hrt) (by rcases hv with rfl | rfl <;> decide) (fun t ht _ => ⟨⟨_, ws, rfl, hpost, by rw [ht]; exact hP, hD⟩, hS.F ht⟩) hS.2.2 hd hlk

theorem V_vret (hd : decode bt pc = .ok (.return_, 1)) (hrt : rt = none) (hcl : cl ≤ mc) (hsl : sl ≤ ms) (hpost : post none ws) : V E y bt nL rt fr mc ms post (pc) (L) ([]) (ws) (cl) (sl) := by
  intro p e s m args below meth c H locs ls A C hl hP hD hS
  have hlk := C.2.2.2.2.2.2.1
  refine W.widen hcl hsl ?_
  exact W.vret C.1 C.2.1 (C.2.2.1.trans hrt) (fun t ht _ => ⟨⟨_, ws, rfl, hpost, by rw [ht]; exact hP, hD⟩, hS.F ht⟩) hS.2.2 hd hlk

theorem V_aret {v : Value} {r : FieldType} (hd : decode bt pc = .ok (.areturn, 1)) (hrt : rt = some r) (hr : (∃ n, r = .object n) ∨ ∃ t, r = .array t) (hv : v = .null ∨ ∃ a, v = .ref a) (hcl : cl ≤ mc) (hsl : sl ≤ ms) (hpost : post (some v) ws) : V E y bt nL rt fr mc ms post (pc) (L) ([v]) (ws) (cl) (sl) := by
  intro p e s m args below meth c H locs ls A C hl hP hD hS
  have hlk := C.2.2.2.2.2.2.1
  refine W.widen hcl hsl ?_
  exact W.aret C.1 C.2.1 (C.2.2.1.trans hrt) hr hv (fun t ht _ => ⟨⟨_, ws, rfl, hpost, by rw [ht]; exact hP, hD⟩, hS.F ht⟩) hS.2.2 hd hlk

theorem V.locals {L' : List (Option Value)} (hs : ∀ (i : Nat) (v : Value), L'[i]? = some (some v) → L[i]? = some (some v)) (k : V E y bt nL rt fr mc ms post (pc) (L') (st) (ws) (cl) (sl)) : V E y bt nL rt fr mc ms post (pc) (L) (st) (ws) (cl) (sl) := by
  intro p e s m args below meth c H locs ls A C hl hP hD hS
  exact k p e s m args below meth c H locs ls A C (hl.sub hs) hP hD hS

theorem V.wide {cl' sl' : Nat} (h1 : cl ≤ cl') (h2 : sl ≤ sl') (k : V E y bt nL rt fr mc ms post (pc) (L) (st) (ws) (cl') (sl')) : V E y bt nL rt fr mc ms post (pc) (L) (st) (ws) (cl) (sl) := by
  intro p e s m args below meth c H locs ls A C hl hP hD hS
  exact W.widen h1 h2 (k p e s m args below meth c H locs ls A C hl hP hD hS)
/-- behind a call -/
theorem V_run {y' : MethodName} {mc' ms' : Nat} {post' : Option Value → va_W → Prop} {a : Array Value} {st0 : List Value}
    {p : Program} {e : Env} {s : State} {m : MethodId} {args : Array Value} {below : List Frame} {meth : Method} {c : Code} {H : Heap} {locs : List Loc} {ls : Array Slot} {A : Nat → Prop}
    (C : Cx E y bt nL rt p s m args meth c A) (hl : Lh ls nL L) (hD : va_D A ws) (hS : va_S A s.heap H locs)
    (hr : va_Run p E.1 e (RM fr mc ms) s m args below meth c H locs cl sl mc' ms' (F0 m pc ls st0) st (Q0 E (va_A ws H.size) post' a) (va_A ws H.size))
    (k : ∀ (v : Option Value) (ws' : va_W), post' v ws' → V E y bt nL rt fr mc ms post (pc + 3) L (v.toList ++ st) ws' (cl + mc') (sl + ms')) :
    W p E.1 e (RM fr mc ms) s m args below meth c H locs cl sl (MQ below (Q0 E A post) args s mc ms A) (F0 m pc ls st0) := by
  have hF : ∀ q, va_A ws H.size q → A q := by
    rintro q (⟨k, e9, h⟩ | h)
    · exact hD.2 k (q, e9) h
    · exact C.2.2.2.2.2.2.2.2.2.1 q (Nat.le_trans hS.1 h)
  intro T hT X
  obtain ⟨v, st₀, t, T', L9, h0, X', hL, e1, e2, ⟨⟨v', ws', hv, hp, hP1, hD1⟩, hz, hk⟩, stp⟩ := hr T hT X
  cases hv
  rw [h0] at hz hk
  obtain ⟨t2, a1, b1⟩ := k v ws' hp p e s m args below meth c T'.heap (locs ++ L9) ls A C hl (by rw [e1]; exact hP1) (hD1.weaken (fun _ _ _ h => hF _ h))
    ⟨Nat.le_trans hS.1 (by rw [e1]; exact hz), fun q h1 h2 => by rw [e1, hk q (Nat.lt_of_lt_of_le h1 hS.1) (fun z => h2 (hF q z))]; exact hS.2.1 q h1 h2, fun q hq => by
      rcases List.mem_append.mp hq with h | h
      · exact hS.2.2 q h
      · exact hF _ (hL q h)⟩ T' rfl X'
  exact ⟨t2, stp t2 a1, b1⟩
theorem Pc_blind {av : List Value} {sz : Nat} (hG : GOK E.2.2.2) : FrameBlind (va_Pc av (fun U => U.heap.size = sz ∧ va_P E.2.1 CL ws U.heap ∧ va_K E.2.1 CL (TY E) U ∧ va_D (fun _ => True) ws ∧ E.2.2.2 (va_A ws sz) U)) := by
  intro a U g mk q
  obtain ⟨q0, q1, qP, qK, qD, qG⟩ := q
  exact ⟨q0, q1, qP, va_K.moved (u := U) (U := U.calling g mk a) (Vm.Alike.refl U.vm) qK, qD, hG.1 _ U (U.calling g mk a) rfl rfl qG⟩
theorem Pc_start {av : List Value} {p : Program} {s : State} {m : MethodId} {args : Array Value} {meth : Method} {c : Code} {H : Heap} {locs : List Loc} {A : Nat → Prop}
    (C : Cx E y bt nL rt p s m args meth c A) (hP : va_P E.2.1 CL ws H) (hD : va_D A ws) (hS : va_S A s.heap H locs) : ∀ U : State, U.heap = H → s.WarmedH U.vm → va_Pc av (fun U => U.heap.size = H.size ∧ va_P E.2.1 CL ws U.heap ∧ va_K E.2.1 CL (TY E) U ∧ va_D (fun _ => True) ws ∧ E.2.2.2 (va_A ws H.size) U) av.toArray U := by
  intro U hU hW
  refine ⟨rfl, by rw [hU], by rw [hU]; exact hP, va_K.moved hW.alike C.2.2.2.2.2.2.2.2.1, hD.weaken (fun _ _ _ _ => trivial), ?_⟩
  refine C.2.2.2.2.2.2.2.2.2.2.1.2 A _ s U locs C.2.2.2.2.2.2.2.2.2.2.2 hW (by rw [hU]; exact hS) ?_
  rintro q (⟨k, e9, h⟩ | h) h2
  · exact hD.2 k (q, e9) h
  · exact absurd h2 (Nat.not_lt.mpr (Nat.le_trans hS.1 h))
theorem V_callV (q : Nat) {y' : MethodName} {bt' : ByteArray} {nL' : Nat} {rt' : Option FieldType} {fr' mc' ms' : Nat} {post' : Option Value → va_W → Prop} {As st0 : List Value} {ix ci b n : Nat} {fs : List Value} {T : u_T} {N : Nat}
    (hM : MW y' bt' nL' rt' n) (hl' : MV y.cls ix y') (hd : decode bt pc = .ok (.invokevirtual ix, 3)) (hC : Ct E y' bt' nL' rt' fr' mc' ms' (.ref b :: As) ws post') (he : ws[q]? = some (b, .inr (ci, fs))) (hc : CL[ci]? = some (y'.cls, T, N))
    (hn : As.length = n) (hst : st0 = As.reverse ++ .ref b :: st) (hW : (st.map fun v => v.category).sum ≤ 8) (hfr : fr' + 1 ≤ fr) (hnL : nL' ≤ 21) (hcl : cl + mc' ≤ mc) (hsl : sl + ms' ≤ ms)
    (k : ∀ (v : Option Value) (ws' : va_W), post' v ws' → V E y bt nL rt fr mc ms post (pc + 3) L (v.toList ++ st) ws' (cl + mc') (sl + ms')) : V E y bt nL rt fr mc ms post pc L st0 ws cl sl := by
  intro p e s m args below meth c H locs ls A C hl hP hD hS
  have hts := C.2.2.2.2.2.1
  refine V_run (post' := post') (a := (Value.ref b :: As).toArray) (y' := y') C hl hD hS ?_ k
  refine va_runV (C := y'.cls) (bytes := bt') (maxL := nL') (ret := rt') (n := n) ⟨C.1, C.2.1, C.2.2.2.1, C.2.2.2.2.1, hts⟩ (hC C.2.2.2.2.2.2.2.2.2.2.1 H.size) ⟨callB_of n hts (gUni0 hM.1) rfl rfl rfl (hts _ hM.2.1) (hts _ hl'.1) hM.2.2.1 ⟨hfr, ?_⟩, hts _ hl'.2.1, hts _ hl'.2.2⟩ ⟨Pc_blind C.2.2.2.2.2.2.2.2.2.2.1, va_recv C.2.2.2.2.2.2.2.2.1 hP hc he, Pc_start C hP hD hS⟩ rfl hn hl.1.1 hst ?_ hd ⟨hcl, hsl⟩
  · show 8 + (nL' + 11) + 40 * fr' ≤ 40 * fr
    omega
  · exact lv_room hW
theorem V_callS {y' : MethodName} {bt' : ByteArray} {nL' : Nat} {rt' : Option FieldType} {fr' mc' ms' : Nat} {post' : Option Value → va_W → Prop} {As st0 : List Value} {ix n : Nat}
    (hM : MW y' bt' nL' rt' n) (hl' : MS y.cls ix y') (hd : decode bt pc = .ok (.invokestatic ix, 3)) (hC : Ct E y' bt' nL' rt' fr' mc' ms' As ws post')
    (hn : As.length = n) (hst : st0 = As.reverse ++ st) (hW : (st.map fun v => v.category).sum ≤ 8) (hfr : fr' + 1 ≤ fr) (hnL : nL' ≤ 21) (hcl : cl + mc' ≤ mc) (hsl : sl + ms' ≤ ms)
    (k : ∀ (v : Option Value) (ws' : va_W), post' v ws' → V E y bt nL rt fr mc ms post (pc + 3) L (v.toList ++ st) ws' (cl + mc') (sl + ms')) : V E y bt nL rt fr mc ms post pc L st0 ws cl sl := by
  intro p e s m args below meth c H locs ls A C hl hP hD hS
  have hts := C.2.2.2.2.2.1
  refine V_run (post' := post') (a := As.toArray) (y' := y') C hl hD hS ?_ k
  refine va_runS (bytes := bt') (maxL := nL') (ret := rt') (n := n) ⟨C.1, C.2.1, C.2.2.2.1, C.2.2.2.2.1, hts⟩ (hC C.2.2.2.2.2.2.2.2.2.2.1 H.size) ⟨callB_of n hts (gUni0 hM.1) rfl rfl rfl (hts _ hM.2.1) (hts _ hl'.1) hM.2.2.1 ⟨hfr, ?_⟩, hts _ hl'.2⟩ ⟨Pc_blind C.2.2.2.2.2.2.2.2.2.2.1, Pc_start C hP hD hS⟩ rfl hn hl.1.1 hst ?_ hd ⟨hcl, hsl⟩
  · show 8 + (nL' + 11) + 40 * fr' ≤ 40 * fr
    omega
  · exact lv_room hW
theorem V_callI {y' : MethodName} {bt' : ByteArray} {nL' : Nat} {fr' mc' ms' : Nat} {post' : Option Value → va_W → Prop} {As st0 : List Value} {ix b n : Nat}
    (hM : MW y' bt' nL' none n) (hl' : MI y.cls ix y') (hd : decode bt pc = .ok (.invokespecial ix, 3)) (hC : Ct E y' bt' nL' none fr' mc' ms' (.ref b :: As) ws post')
    (hn : As.length = n) (hst : st0 = As.reverse ++ .ref b :: st) (hW : (st.map fun v => v.category).sum ≤ 8) (hfr : fr' + 1 ≤ fr) (hnL : nL' ≤ 21) (hcl : cl + mc' ≤ mc) (hsl : sl + ms' ≤ ms)
    (k : ∀ (v : Option Value) (ws' : va_W), post' v ws' → V E y bt nL rt fr mc ms post (pc + 3) L (v.toList ++ st) ws' (cl + mc') (sl + ms')) : V E y bt nL rt fr mc ms post pc L st0 ws cl sl := by
  intro p e s m args below meth c H locs ls A C hl hP hD hS
  have hts := C.2.2.2.2.2.1
  refine V_run (post' := post') (a := (Value.ref b :: As).toArray) (y' := y') C hl hD hS ?_ k
  refine va_runI (bytes := bt') (maxL := nL') (n := n) ⟨C.1, C.2.1, C.2.2.2.1, C.2.2.2.2.1, hts⟩ (hC C.2.2.2.2.2.2.2.2.2.2.1 H.size) ⟨callB_of n hts (gUni0 hM.1) rfl rfl rfl (hts _ hM.2.1) (hts _ hl'.1) hM.2.2.1 ⟨hfr, ?_⟩, hl'.2.2, hts _ hl'.2.1⟩ ⟨Pc_blind C.2.2.2.2.2.2.2.2.2.2.1, Pc_start C hP hD hS⟩ rfl hn hl.1.1 hst ?_ hd ⟨hcl, hsl⟩
  · show 8 + (nL' + 11) + 40 * fr' ≤ 40 * fr
    omega
  · exact lv_room hW
theorem V_mmax {ix : Nat} {x z : Int32} (hlk : Cond.methodLink y.cls ix Lib.Math.max.name ∈ TB) (hs : Cond.static Lib.Math.max.name ∈ TB) (hi : Cond.initialized "java/lang/Math" ∈ TB) (hc : Cond.code Lib.Math.max.name Lib.Math.max.code 2 (some .int) ∈ TB) (hd : decode bt pc = .ok (.invokestatic ix, 3)) (hfr : 1 ≤ fr) (hW : (st.map fun v => v.category).sum ≤ 8) (hcl : cl ≤ mc) (hsl : sl ≤ ms)
    (k : V E y bt nL rt fr mc ms post (pc + 3) L (.int (if x < z then z else x) :: st) ws cl sl) : V E y bt nL rt fr mc ms post pc L (.int z :: .int x :: st) ws cl sl := by
  intro p e s m args below meth c H locs ls A C hl hP hD hS
  exact va_mmax C.1 C.2.1 (C.2.2.2.1.trans hl.1.1.symm) C.2.2.2.2.1 (C.2.2.2.2.2.1 _ hlk) (C.2.2.2.2.2.1 _ hs) (C.2.2.2.2.2.1 _ hi) (C.2.2.2.2.2.1 _ hc) hfr (by show _ + 13 ≤ 40 * fr; omega) hcl hsl hd (k p e s m args below meth c H locs ls A C hl hP hD hS)
theorem V_mmin {ix : Nat} {x z : Int32} (hlk : Cond.methodLink y.cls ix Lib.Math.min.name ∈ TB) (hs : Cond.static Lib.Math.min.name ∈ TB) (hi : Cond.initialized "java/lang/Math" ∈ TB) (hc : Cond.code Lib.Math.min.name Lib.Math.min.code 2 (some .int) ∈ TB) (hd : decode bt pc = .ok (.invokestatic ix, 3)) (hfr : 1 ≤ fr) (hW : (st.map fun v => v.category).sum ≤ 8) (hcl : cl ≤ mc) (hsl : sl ≤ ms)
    (k : V E y bt nL rt fr mc ms post (pc + 3) L (.int (if z < x then z else x) :: st) ws cl sl) : V E y bt nL rt fr mc ms post pc L (.int z :: .int x :: st) ws cl sl := by
  intro p e s m args below meth c H locs ls A C hl hP hD hS
  exact va_mmin C.1 C.2.1 (C.2.2.2.1.trans hl.1.1.symm) C.2.2.2.2.1 (C.2.2.2.2.2.1 _ hlk) (C.2.2.2.2.2.1 _ hs) (C.2.2.2.2.2.1 _ hi) (C.2.2.2.2.2.1 _ hc) hfr (by show _ + 13 ≤ 40 * fr; omega) hcl hsl hd (k p e s m args below meth c H locs ls A C hl hP hD hS)
end VR
theorem lvOf_args (vs : List Value) (h : ∀ v ∈ vs, v.category = 1) : ∀ (j i : Nat) (v : Value), vs[i]? = some v → (j + i, v) ∈ lv_args j vs := by
  induction vs with
  | nil => intro j i v hv; simp at hv
  | cons a vs ih =>
    intro j i v hv
    have ha : a.category = 1 := h a List.mem_cons_self
    unfold lv_args
    cases i with
    | zero =>
      rw [List.getElem?_cons_zero] at hv
      cases hv
      exact List.mem_cons_self
    | succ i =>
      rw [List.getElem?_cons_succ] at hv
      refine List.mem_cons_of_mem _ ?_
      rw [if_neg (by omega)]
      have := ih (fun v hv => h v (List.mem_cons_of_mem _ hv)) (j + 1) i v hv
      rw [show j + (i + 1) = j + 1 + i by omega]
      exact this
theorem sl_len (vs : List Value) (h : ∀ v ∈ vs, v.category = 1) : (lg_sl vs).length = vs.length := by
  induction vs with
  | nil => rfl
  | cons a vs ih =>
    have ha : a.category = 1 := h a List.mem_cons_self
    have e := ih (fun v hv => h v (List.mem_cons_of_mem _ hv))
    simp only [lg_sl, List.flatMap_cons, List.length_append, List.length_cons] at e ⊢
    rw [e]
    cases a <;> simp [Value.category] at ha ⊢ <;> omega
/-- a contract out of its walk -/
theorem Ct_of {E : VE} {y : MethodName} {bt : ByteArray} {nL : Nat} {rt : Option FieldType} {fr mc ms n : Nat} {av : List Value} {ws : va_W} {post : Option Value → va_W → Prop} (hM : MW y bt nL rt n) (hav0 : av.all (fun v => decide (v.category = 1)) = true) (hnl : av.length ≤ nL)
    (k : V E y bt nL rt fr mc ms post 0 (av.map some ++ List.replicate (nL - av.length) none) [] ws 0 0) : Ct E y bt nL rt fr mc ms av ws post := by
  have hav : ∀ v ∈ av, v.category = 1 := fun v hv => of_decide_eq_true (List.all_eq_true.mp hav0 v hv)
  intro hG sz
  refine Met.ofW (cc := bt) (maxL := nL) (ret := rt) hM.2.2.2 rfl ?_
  intro p e s m args below meth c s₁ B hml hv
  obtain ⟨rfl, hsz, hP, hK, hD0, hG0⟩ := hv
  subst hsz
  rw [lg_entry_eq]
  have hl := lv_entry av (n := nL) (by rw [sl_len av hav]; exact hnl)
  have hts := atoms_spec (ws := Cond.code y bt nL rt :: TB) B.pre
  refine k p e s m _ below meth c s.heap [] _ _ ⟨B.exec, B.bytes, B.returns, hml, findClass_of_methodNamed B.named, fun w hw => hts w (List.mem_cons_of_mem _ hw), B.notSynchronized, (name_of_methodNamed B.named B.method).1, hK, fun q h => Or.inr h, hG, hG0⟩ ?_ hP (hD0.self (sz := s.heap.size)) va_S.rf
  have key : ∀ (i : Nat) (v : Value), (av.map some ++ List.replicate (nL - av.length) none)[i]? = some (some v) → av[i]? = some v := by
    intro i v h
    by_cases hi : i < av.length
    · rw [List.getElem?_append_left (by simpa using hi), List.getElem?_map] at h
      cases ha : av[i]? with
      | none => rw [ha] at h; cases h
      | some w => rw [ha] at h; cases h; rfl
    · rw [List.getElem?_append_right (by simpa using Nat.not_lt.mp hi)] at h
      have := List.eq_of_mem_replicate (List.mem_of_getElem? h)
      cases this
  refine ⟨⟨hl.1, hl.2.1, fun q hq => ?_⟩, fun i v h => hav v (List.mem_of_getElem? (key i v h))⟩
  have h1 := lvOf_args av hav 0 q.1 q.2 (key _ _ (mem_lvOf.mp hq))
  rw [Nat.zero_add] at h1
  exact hl.2.2 q h1
theorem Ct.mono {E : VE} {y : MethodName} {bt : ByteArray} {nL : Nat} {rt : Option FieldType} {fr mc ms : Nat} {av : List Value} {ws : va_W} {post post2 : Option Value → va_W → Prop} (h : Ct E y bt nL rt fr mc ms av ws post) (hp : ∀ v w, post v w → post2 v w) : Ct E y bt nL rt fr mc ms av ws post2 := by
  intro hG sz p e ha hc hk s m args below hf h1 h2 h3
  obtain ⟨k, o, a1, a2, a3, ⟨⟨v, w, b1, b2, b3⟩, b4⟩, a5⟩ := h hG sz p e ha hc hk s m args below hf h1 h2 h3
  exact ⟨k, o, a1, a2, a3, ⟨⟨v, w, b1, hp v w b2, b3⟩, b4⟩, a5⟩
