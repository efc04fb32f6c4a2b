/-! ===== methods that may throw: VX ===== -/
abbrev NSE : String := "java/util/NoSuchElementException"
/-- where it has thrown: the world -/
def XQ (E : VE) (A : Nat → Prop) (px : va_W → Prop) : String → State → State → Prop := fun nm st t => nm = NSE ∧ ∃ ws' : va_W, px ws' ∧ va_P E.2.1 CL ws' t.heap ∧ va_D A ws' ∧ va_F A st t
def VX (E : VE) (y : MethodName) (bt : ByteArray) (nL : Nat) (rt : Option FieldType) (fr mc ms : Nat) (post : Option Value → va_W → Prop) (px : va_W → Prop) (pc : Nat) (L : List (Option Value)) (st : List Value) (ws : va_W) (cl sl : Nat) : Prop :=
  ∀ (p : Program) (e : Env) (s : State) (m : MethodId) (args : Array Value) (below : List Frame) (meth : Method) (c : Code) (H : Heap) (locs : List Loc) (ls : Array Slot) (A : Nat → Prop),
    Cx E y bt nL rt p s m args meth c A → (∀ x ∈ c.exceptionTable.toList, False) → Lh ls nL L → va_P E.2.1 CL ws H → va_D A ws → va_S A s.heap H locs →
    W p E.1 e (RM fr mc ms) s m args below meth c H locs cl sl (vx_MQ below (Q0 E A post) (XQ E A px) args s mc ms A) (F0 m pc ls st)
section VXR
variable {E : VE} {y : MethodName} {bt : ByteArray} {nL : Nat} {rt : Option FieldType} {fr mc ms : Nat} {post : Option Value → va_W → Prop} {px : va_W → Prop} {pc : Nat} {L : List (Option Value)} {st : List Value} {ws : va_W} {cl sl tE mi : Nat}
theorem VX_of (k : V E y bt nL rt fr mc ms post pc L st ws cl sl) : VX E y bt nL rt fr mc ms post px pc L st ws cl sl := by
  intro p e s m args below meth c H locs ls A C hx hl hP hD hS
  exact vx_ret (k p e s m args below meth c H locs ls A C hl hP hD hS)
theorem VX_iload_n {j : Fin 4} {x : Int32} (hd : decode bt pc = .ok (.iload_n j, 1)) (hi : L[(j : Nat)]? = some (some (.int x))) (k : VX E y bt nL rt fr mc ms post px (pc + 1) (L) (.int x :: st) (ws) (cl) (sl)) : VX E y bt nL rt fr mc ms post px (pc) (L) (st) (ws) (cl) (sl) := by
  intro p e s m args below meth c H locs ls A C hx hl hP hD hS
  exact lv_iload_n C.1 C.2.1 hd rfl (hl.at hi) (k p e s m args below meth c H locs ls A C hx hl hP hD hS)
theorem VX_iload {i : Nat} {x : Int32} (hd : decode bt pc = .ok (.iload i, 2)) (hi : L[i]? = some (some (.int x))) (k : VX E y bt nL rt fr mc ms post px (pc + 2) (L) (.int x :: st) (ws) (cl) (sl)) : VX E y bt nL rt fr mc ms post px (pc) (L) (st) (ws) (cl) (sl) := by
  intro p e s m args below meth c H locs ls A C hx hl hP hD hS
  exact lv_iload C.1 C.2.1 hd (hl.at hi) (k p e s m args below meth c H locs ls A C hx hl hP hD hS)
theorem VX_aload_n {j : Fin 4} {x : Nat} (hd : decode bt pc = .ok (.aload_n j, 1)) (hi : L[(j : Nat)]? = some (some (.ref x))) (k : VX E y bt nL rt fr mc ms post px (pc + 1) (L) (.ref x :: st) (ws) (cl) (sl)) : VX E y bt nL rt fr mc ms post px (pc) (L) (st) (ws) (cl) (sl) := by
  intro p e s m args below meth c H locs ls A C hx hl hP hD hS
  exact lv_aload_n C.1 C.2.1 hd rfl (hl.at hi) (k p e s m args below meth c H locs ls A C hx hl hP hD hS)
theorem VX_aload {i : Nat} {x : Nat} (hd : decode bt pc = .ok (.aload i, 2)) (hi : L[i]? = some (some (.ref x))) (k : VX E y bt nL rt fr mc ms post px (pc + 2) (L) (.ref x :: st) (ws) (cl) (sl)) : VX E y bt nL rt fr mc ms post px (pc) (L) (st) (ws) (cl) (sl) := by
  intro p e s m args below meth c H locs ls A C hx hl hP hD hS
  exact lv_aload C.1 C.2.1 hd (hl.at hi) (k p e s m args below meth c H locs ls A C hx hl hP hD hS)
theorem VX_astore_n {j : Fin 4} {x : Nat} (hd : decode bt pc = .ok (.astore_n j, 1)) (hn : (j : Nat) < nL) (k : VX E y bt nL rt fr mc ms post px (pc + 1) (L.set (j : Nat) (some (.ref x))) (st) (ws) (cl) (sl)) : VX E y bt nL rt fr mc ms post px (pc) (L) (.ref x :: st) (ws) (cl) (sl) := by
  intro p e s m args below meth c H locs ls A C hx hl hP hD hS
  exact lv_astore_n C.1 C.2.1 hd rfl hl.1 hn rfl (fun ls h2 => k p e s m args below meth c H locs ls A C hx (hl.put rfl h2) hP hD hS)
theorem VX_astore {i : Nat} {x : Nat} (hd : decode bt pc = .ok (.astore i, 2)) (hn : i < nL) (k : VX E y bt nL rt fr mc ms post px (pc + 2) (L.set i (some (.ref x))) (st) (ws) (cl) (sl)) : VX E y bt nL rt fr mc ms post px (pc) (L) (.ref x :: st) (ws) (cl) (sl) := by
  intro p e s m args below meth c H locs ls A C hx hl hP hD hS
  exact lv_astore C.1 C.2.1 hd hl.1 hn rfl (fun ls h2 => k p e s m args below meth c H locs ls A C hx (hl.put rfl h2) hP hD hS)
theorem VX_istore_n {j : Fin 4} {x : Int32} (hd : decode bt pc = .ok (.istore_n j, 1)) (hn : (j : Nat) < nL) (k : VX E y bt nL rt fr mc ms post px (pc + 1) (L.set (j : Nat) (some (.int x))) (st) (ws) (cl) (sl)) : VX E y bt nL rt fr mc ms post px (pc) (L) (.int x :: st) (ws) (cl) (sl) := by
  intro p e s m args below meth c H locs ls A C hx hl hP hD hS
  exact lv_istore_n C.1 C.2.1 hd rfl hl.1 hn rfl (fun ls h2 => k p e s m args below meth c H locs ls A C hx (hl.put rfl h2) hP hD hS)
theorem VX_istore {i : Nat} {x : Int32} (hd : decode bt pc = .ok (.istore i, 2)) (hn : i < nL) (k : VX E y bt nL rt fr mc ms post px (pc + 2) (L.set i (some (.int x))) (st) (ws) (cl) (sl)) : VX E y bt nL rt fr mc ms post px (pc) (L) (.int x :: st) (ws) (cl) (sl) := by
  intro p e s m args below meth c H locs ls A C hx hl hP hD hS
  exact lv_istore C.1 C.2.1 hd hl.1 hn rfl (fun ls h2 => k p e s m args below meth c H locs ls A C hx (hl.put rfl h2) hP hD hS)
theorem VX_iconst {n : Int} {v : Int32} (hd : decode bt pc = .ok (.iconst n, 1)) (hv : Int32.ofInt n = v) (k : VX E y bt nL rt fr mc ms post px (pc + 1) (L) (.int v :: st) (ws) (cl) (sl)) : VX E y bt nL rt fr mc ms post px (pc) (L) (st) (ws) (cl) (sl) := by
  intro p e s m args below meth c H locs ls A C hx hl hP hD hS
  exact lv_iconst C.1 C.2.1 hd hv (k p e s m args below meth c H locs ls A C hx hl hP hD hS)
theorem VX_get (q : Nat) {ix ci j a : Nat} {fs : List Value} {v : Value} (hF : FL y.cls ix ci j) (hd : decode bt pc = .ok (.getfield ix, 3)) (he : ws[q]? = some (a, .inr (ci, fs))) (hv : fs[j]? = some v) (k : VX E y bt nL rt fr mc ms post px (pc + 3) (L) (v :: st) (ws) (cl) (sl)) : VX E y bt nL rt fr mc ms post px (pc) (L) (.ref a :: st) (ws) (cl) (sl) := by
  intro p e s m args below meth c H locs ls A C hx hl hP hD hS
  obtain ⟨C9, T9, N9, hc, hk, hin, hlk⟩ := hF
  exact va_get C.1 C.2.1 C.2.2.2.2.2.1 hin C.2.2.2.2.1 C.2.2.2.2.2.2.2.2.1 hP q he hc j hk (C.2.2.2.2.2.1 _ hlk) (fun _ h9 => h9) hv hd (k p e s m args below meth c H locs ls A C hx hl hP hD hS)
theorem VX_if_ne {x : Int32} {off : Int} (tgt : Nat) (hd : decode bt pc = .ok (.ifCond .ne off, 3)) (ht : (pc : Int) + off = (tgt : Int)) (kt : ¬ x = 0 → VX E y bt nL rt fr mc ms post px (tgt) (L) (st) (ws) (cl) (sl)) (kf : x = 0 → VX E y bt nL rt fr mc ms post px (pc + 3) (L) (st) (ws) (cl) (sl)) : VX E y bt nL rt fr mc ms post px (pc) (L) (.int x :: st) (ws) (cl) (sl) := by
  intro p e s m args below meth c H locs ls A C hx hl hP hD hS
  exact lv_if_ne C.1 C.2.1 hd ht (fun h => kt h p e s m args below meth c H locs ls A C hx hl hP hD hS) (fun h => kf h p e s m args below meth c H locs ls A C hx hl hP hD hS)
theorem VX_if_eq {x : Int32} {off : Int} (tgt : Nat) (hd : decode bt pc = .ok (.ifCond .eq off, 3)) (ht : (pc : Int) + off = (tgt : Int)) (kt : x = 0 → VX E y bt nL rt fr mc ms post px (tgt) (L) (st) (ws) (cl) (sl)) (kf : ¬ x = 0 → VX E y bt nL rt fr mc ms post px (pc + 3) (L) (st) (ws) (cl) (sl)) : VX E y bt nL rt fr mc ms post px (pc) (L) (.int x :: st) (ws) (cl) (sl) := by
  intro p e s m args below meth c H locs ls A C hx hl hP hD hS
  exact lv_if_eq C.1 C.2.1 hd ht (fun h => kt h p e s m args below meth c H locs ls A C hx hl hP hD hS) (fun h => kf h p e s m args below meth c H locs ls A C hx hl hP hD hS)
theorem VX_if_lt {x : Int32} {off : Int} (tgt : Nat) (hd : decode bt pc = .ok (.ifCond .lt off, 3)) (ht : (pc : Int) + off = (tgt : Int)) (kt : x < 0 → VX E y bt nL rt fr mc ms post px (tgt) (L) (st) (ws) (cl) (sl)) (kf : ¬ x < 0 → VX E y bt nL rt fr mc ms post px (pc + 3) (L) (st) (ws) (cl) (sl)) : VX E y bt nL rt fr mc ms post px (pc) (L) (.int x :: st) (ws) (cl) (sl) := by
  intro p e s m args below meth c H locs ls A C hx hl hP hD hS
  exact lv_if_lt C.1 C.2.1 hd ht (fun h => kt h p e s m args below meth c H locs ls A C hx hl hP hD hS) (fun h => kf h p e s m args below meth c H locs ls A C hx hl hP hD hS)
theorem VX_icmp_lt {x z : Int32} {off : Int} (tgt : Nat) (hd : decode bt pc = .ok (.if_icmp .lt off, 3)) (ht : (pc : Int) + off = (tgt : Int)) (kt : x < z → VX E y bt nL rt fr mc ms post px (tgt) (L) (st) (ws) (cl) (sl)) (kf : ¬ x < z → VX E y bt nL rt fr mc ms post px (pc + 3) (L) (st) (ws) (cl) (sl)) : VX E y bt nL rt fr mc ms post px (pc) (L) (.int z :: .int x :: st) (ws) (cl) (sl) := by
  intro p e s m args below meth c H locs ls A C hx hl hP hD hS
  exact lv_icmp_lt C.1 C.2.1 hd ht (fun h => kt h p e s m args below meth c H locs ls A C hx hl hP hD hS) (fun h => kf h p e s m args below meth c H locs ls A C hx hl hP hD hS)
theorem VX_alenI (q : Nat) {a : Nat} {x : vp_A} {v : Int32} (hd : decode bt pc = .ok (.arraylength, 1)) (he : ws[q]? = some (a, .inl (cI E, x))) (hv : Int32.ofNat x.1 = v) (k : VX E y bt nL rt fr mc ms post px (pc + 1) (L) (.int v :: st) (ws) (cl) (sl)) : VX E y bt nL rt fr mc ms post px (pc) (L) (.ref a :: st) (ws) (cl) (sl) := by
  intro p e s m args below meth c H locs ls A C hx hl hP hD hS
  exact va_alen C.1 C.2.1 C.2.2.2.2.2.2.2.2.1 hP q 0 he rfl hv hd (k p e s m args below meth c H locs ls A C hx hl hP hD hS)
theorem VX_goto {off : Int} (tgt : Nat) (hd : decode bt pc = .ok (.goto off, 3)) (ht : (pc : Int) + off = (tgt : Int)) (k : VX E y bt nL rt fr mc ms post px (tgt) (L) (st) (ws) (cl) (sl)) : VX E y bt nL rt fr mc ms post px (pc) (L) (st) (ws) (cl) (sl) := by
  intro p e s m args below meth c H locs ls A C hx hl hP hD hS
  exact lv_goto C.1 C.2.1 hd ht (k p e s m args below meth c H locs ls A C hx hl hP hD hS)
theorem VX_run {y' : MethodName} {mc' ms' : Nat} {post' : Option Value → va_W → Prop} {a : Array Value} {st0 : List Value}
    {p : Program} {e : Env} {s : State} {m : MethodId} {args : Array Value} {below : List Frame} {meth : Method} {c : Code} {H : Heap} {locs : List Loc} {ls : Array Slot} {A : Nat → Prop}
    (C : Cx E y bt nL rt p s m args meth c A) (hx : ∀ x ∈ c.exceptionTable.toList, False) (hl : Lh ls nL L) (hD : va_D A ws) (hS : va_S A s.heap H locs)
    (hr : va_Run p E.1 e (RM fr mc ms) s m args below meth c H locs cl sl mc' ms' (F0 m pc ls st0) st (Q0 E (va_A ws H.size) post' a) (va_A ws H.size))
    (k : ∀ (v : Option Value) (ws' : va_W), post' v ws' → VX E y bt nL rt fr mc ms post px (pc + 3) L (v.toList ++ st) ws' (cl + mc') (sl + ms')) :
    W p E.1 e (RM fr mc ms) s m args below meth c H locs cl sl (vx_MQ below (Q0 E A post) (XQ E A px) args s mc ms A) (F0 m pc ls st0) := by
  have hF : ∀ q, va_A ws H.size q → A q := by
    rintro q (⟨k, e9, h⟩ | h)
    · exact hD.2 k (q, e9) h
    · exact C.2.2.2.2.2.2.2.2.2.1 q (Nat.le_trans hS.1 h)
  intro T hT X
  obtain ⟨v, st₀, t, T', L9, h0, X', hL, e1, e2, ⟨⟨v', ws', hv, hp, hP1, hD1⟩, hz, hk⟩, stp⟩ := hr T hT X
  cases hv
  rw [h0] at hz hk
  obtain ⟨t2, a1, b1⟩ := k v ws' hp p e s m args below meth c T'.heap (locs ++ L9) ls A C hx hl (by rw [e1]; exact hP1) (hD1.weaken (fun _ _ _ h => hF _ h))
    ⟨Nat.le_trans hS.1 (by rw [e1]; exact hz), fun q h1 h2 => by rw [e1, hk q (Nat.lt_of_lt_of_le h1 hS.1) (fun z => h2 (hF q z))]; exact hS.2.1 q h1 h2, fun q hq => by
      rcases List.mem_append.mp hq with h | h
      · exact hS.2.2 q h
      · exact hF _ (hL q h)⟩ T' rfl X'
  exact ⟨t2, stp t2 a1, b1⟩
theorem VX_callV (q : Nat) {y' : MethodName} {bt' : ByteArray} {nL' : Nat} {rt' : Option FieldType} {fr' mc' ms' : Nat} {post' : Option Value → va_W → Prop} {As st0 : List Value} {ix ci b n : Nat} {fs : List Value} {T : u_T} {N : Nat}
    (hM : MW y' bt' nL' rt' n) (hl' : MV y.cls ix y') (hd : decode bt pc = .ok (.invokevirtual ix, 3)) (hC : Ct E y' bt' nL' rt' fr' mc' ms' (.ref b :: As) ws post') (he : ws[q]? = some (b, .inr (ci, fs))) (hc : CL[ci]? = some (y'.cls, T, N))
    (hn : As.length = n) (hst : st0 = As.reverse ++ .ref b :: st) (hW : (st.map fun v => v.category).sum ≤ 8) (hfr : fr' + 1 ≤ fr) (hnL : nL' ≤ 21) (hcl : cl + mc' ≤ mc) (hsl : sl + ms' ≤ ms)
    (k : ∀ (v : Option Value) (ws' : va_W), post' v ws' → VX E y bt nL rt fr mc ms post px (pc + 3) L (v.toList ++ st) ws' (cl + mc') (sl + ms')) : VX E y bt nL rt fr mc ms post px pc L st0 ws cl sl := by
  intro p e s m args below meth c H locs ls A C hx hl hP hD hS
  have hts := C.2.2.2.2.2.1
  refine VX_run (post' := post') (a := (Value.ref b :: As).toArray) (y' := y') C hx hl hD hS ?_ k
  refine va_runV (C := y'.cls) (bytes := bt') (maxL := nL') (ret := rt') (n := n) ⟨C.1, C.2.1, C.2.2.2.1, C.2.2.2.2.1, hts⟩ (hC C.2.2.2.2.2.2.2.2.2.2.1 H.size) ⟨callB_of n hts (gUni0 hM.1) rfl rfl rfl (hts _ hM.2.1) (hts _ hl'.1) hM.2.2.1 ⟨hfr, ?_⟩, hts _ hl'.2.1, hts _ hl'.2.2⟩ ⟨Pc_blind C.2.2.2.2.2.2.2.2.2.2.1, va_recv C.2.2.2.2.2.2.2.2.1 hP hc he, Pc_start C hP hD hS⟩ rfl hn hl.1.1 hst ?_ hd ⟨hcl, hsl⟩
  · show 8 + (nL' + 11) + 40 * fr' ≤ 40 * fr
    omega
  · exact lv_room hW
theorem VX_callS {y' : MethodName} {bt' : ByteArray} {nL' : Nat} {rt' : Option FieldType} {fr' mc' ms' : Nat} {post' : Option Value → va_W → Prop} {As st0 : List Value} {ix n : Nat}
    (hM : MW y' bt' nL' rt' n) (hl' : MS y.cls ix y') (hd : decode bt pc = .ok (.invokestatic ix, 3)) (hC : Ct E y' bt' nL' rt' fr' mc' ms' As ws post')
    (hn : As.length = n) (hst : st0 = As.reverse ++ st) (hW : (st.map fun v => v.category).sum ≤ 8) (hfr : fr' + 1 ≤ fr) (hnL : nL' ≤ 21) (hcl : cl + mc' ≤ mc) (hsl : sl + ms' ≤ ms)
    (k : ∀ (v : Option Value) (ws' : va_W), post' v ws' → VX E y bt nL rt fr mc ms post px (pc + 3) L (v.toList ++ st) ws' (cl + mc') (sl + ms')) : VX E y bt nL rt fr mc ms post px pc L st0 ws cl sl := by
  intro p e s m args below meth c H locs ls A C hx hl hP hD hS
  have hts := C.2.2.2.2.2.1
  refine VX_run (post' := post') (a := As.toArray) (y' := y') C hx hl hD hS ?_ k
  refine va_runS (bytes := bt') (maxL := nL') (ret := rt') (n := n) ⟨C.1, C.2.1, C.2.2.2.1, C.2.2.2.2.1, hts⟩ (hC C.2.2.2.2.2.2.2.2.2.2.1 H.size) ⟨callB_of n hts (gUni0 hM.1) rfl rfl rfl (hts _ hM.2.1) (hts _ hl'.1) hM.2.2.1 ⟨hfr, ?_⟩, hts _ hl'.2⟩ ⟨Pc_blind C.2.2.2.2.2.2.2.2.2.2.1, Pc_start C hP hD hS⟩ rfl hn hl.1.1 hst ?_ hd ⟨hcl, hsl⟩
  · show 8 + (nL' + 11) + 40 * fr' ≤ 40 * fr
    omega
  · exact lv_room hW
theorem VX_rdV (q : Nat) {y' : MethodName} {bt' : ByteArray} {nL' : Nat} {rt' : Option FieldType} {fr' : Nat} {x : Int32} {As st0 : List Value} {ix ci b n : Nat} {fs : List Value} {T : u_T} {N : Nat}
    (hM : MW y' bt' nL' rt' n) (hl' : MV y.cls ix y') (hd : decode bt pc = .ok (.invokevirtual ix, 3)) (hC : Ct E y' bt' nL' rt' fr' 0 0 (.ref b :: As) ws (fun r w => r = some (.int x) ∧ w = ws)) (he : ws[q]? = some (b, .inr (ci, fs))) (hc : CL[ci]? = some (y'.cls, T, N))
    (hn : As.length = n) (hst : st0 = As.reverse ++ .ref b :: st) (hW : (st.map fun v => v.category).sum ≤ 8) (hfr : fr' + 1 ≤ fr) (hnL : nL' ≤ 21) (hcl : cl ≤ mc) (hsl : sl ≤ ms)
    (k : VX E y bt nL rt fr mc ms post px (pc + 3) L (.int x :: st) ws cl sl) : VX E y bt nL rt fr mc ms post px pc L st0 ws cl sl := by
  refine VX_callV q hM hl' hd hC he hc hn hst hW hfr hnL hcl hsl ?_
  rintro _ _ ⟨rfl, rfl⟩
  exact k
theorem VX_getN (q : Nat) {ix ci j a : Nat} {fs : List Value} {v : Value} (hE : NST E) (hF : FN y.cls ix ci j) (hd : decode bt pc = .ok (.getfield ix, 3)) (he : ws[q]? = some (a, .inr (ci, fs))) (hv : fs[j]? = some v) (k : VX E y bt nL rt fr mc ms post px (pc + 3) L (v :: st) ws cl sl) : VX E y bt nL rt fr mc ms post px pc L (.ref a :: st) ws cl sl := by
  intro p e s m args below meth c H locs ls A C hx hl hP hD hS
  obtain ⟨C9, T9, N9, hc, hk, hin, hlk⟩ := hF
  exact va_getN C.1 C.2.1 C.2.2.2.2.2.1 hin C.2.2.2.2.1 C.2.2.2.2.2.2.2.2.1 hP q he hc j hk (va_Nw.use rfl (hE A s C.2.2.2.2.2.2.2.2.2.2.2 _ hlk)) (fun _ h9 => h9) hv hd (k p e s m args below meth c H locs ls A C hx hl hP hD hS)
theorem VX_castT (q : Nat) {ix a : Nat} {fs : List Value} (hlk : Cond.classLink y.cls ix RX6 ∈ TB) (hd : decode bt pc = .ok (.checkcast ix, 3)) (he : ws[q]? = some (a, .inr (6, fs))) (k : VX E y bt nL rt fr mc ms post px (pc + 3) (L) (.ref a :: st) (ws) (cl) (sl)) : VX E y bt nL rt fr mc ms post px (pc) (L) (.ref a :: st) (ws) (cl) (sl) := by
  intro p e s m args below meth c H locs ls A C hx hl hP hD hS
  exact va_castS C.1 C.2.1 C.2.2.2.2.1 (C.2.2.2.2.2.1 _ hlk) (C.2.2.2.2.2.2.2.2.1.1 6 (RX6, TX6, 4) rfl).2 (va_recv C.2.2.2.2.2.2.2.2.1 hP (ci := 6) (q := (RX6, TX6, 4)) rfl he) hd (k p e s m args below meth c H locs ls A C hx hl hP hD hS)
end VXR
