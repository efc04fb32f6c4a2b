/-! ===== the law's own was: it catches ===== -/
abbrev HHw : List (Nat × Nat × Nat × Nat) := [(0, 12, 15, 13)]
theorem wl_1 : Cond.codeWith yL_was cL_was 6 (some .int) HHw ∈ TB := by decide +kernel
theorem wl_2 : Cond.classLink RL 13 NSE ∈ TB := by decide +kernel
theorem wl_3 : Cond.initialized RL ∈ TB := by decide +kernel
theorem Met_ofWH {l : Launch} {y : MethodName} {ws ws' : List Cond} {rm : Room} {Pc : Array Value → State → Prop} {Qc : Array Value → State → Outcome → State → Prop} {mc ms : Nat} {free : Addr → Prop} {cc : ByteArray} {maxL : Nat} {ret : Option FieldType} {hh : List (Nat × Nat × Nat × Nat)}
    (hy : plainName y.cls = true) (hw : ws = Cond.codeWith y cc maxL ret hh :: ws')
    (body : ∀ p e s m args below meth c s₁, BodyLoose p l y (headSpec ws rm) cc maxL ret e s m args below meth c s₁ → c.maxLocals = maxL → Pc args s →
      W p l e (headSpec ws rm).room s m args below meth c s.heap [] 0 0 (MQ below Qc args s mc ms free) (entryFrame m args maxL)) : Met l y ws rm Pc Qc mc ms free := by
  refine MetFree.of_bodyS (code := cc) (maxLocals := maxL) (ret := ret) hy ?_ ?_
  · intro args s m h hn
    obtain ⟨m9, meth, c, hn9, h1, h2, h3, h4, -, h5, h6, -⟩ := Cond.codeWith_spec (atoms_spec (ws := ws) h _ (by rw [hw]; exact List.mem_cons_self))
    cases hn.symm.trans hn9
    exact ⟨meth, c, h1, h2, h3, h4, h5, h6⟩
  · intro p e s m args below meth c s₁ B hml hP _
    have hh0 : s₁.heap = s.heap := by rw [B.state]; rfl
    obtain ⟨t, a1, o, b1, b2, b3⟩ := body p e s m args below meth c s₁ B hml hP s₁ hh0 (Stand.of_body B)
    exact ⟨t, o, a1, b1, b2, b3⟩
def VH (E : VE) (y : MethodName) (bt : ByteArray) (nL : Nat) (rt : Option FieldType) (fr mc ms : Nat) (post : Option Value → va_W → Prop) (pc : Nat) (L : List (Option Value)) (st : List Value) (ws : va_W) (cl sl : Nat) : Prop :=
  ∀ (p : Program) (e : Env) (s : State) (m : MethodId) (args : Array Value) (below : List Frame) (meth : Method) (c : Code) (H : Heap) (locs : List Loc) (ls : Array Slot) (A : Nat → Prop),
    Cx E y bt nL rt p s m args meth c A → c.exceptionTable.toList = tableOf HHw → Lh ls nL L → va_P E.2.1 CL ws H → va_D A ws → va_S A s.heap H locs →
    W p E.1 e (RM fr mc ms) s m args below meth c H locs cl sl (MQ below (Q0 E A post) args s mc ms A) (F0 m pc ls st)
def CtW (E : VE) (y : MethodName) (bt : ByteArray) (nL : Nat) (rt : Option FieldType) (fr mc ms : Nat) (av : List Value) (ws : va_W) (post : Option Value → va_W → Prop) : Prop :=
  GOK E.2.2.2 → ∀ sz : Nat, Met E.1 y (Cond.codeWith y bt nL rt HHw :: TB) (RM fr mc ms) (va_Pc av (fun U => U.heap.size = sz ∧ va_P E.2.1 CL ws U.heap ∧ va_K E.2.1 CL (TY E) U ∧ va_D (fun _ => True) ws ∧ E.2.2.2 (va_A ws sz) U)) (Q0 E (va_A ws sz) post) mc ms (va_A ws sz)
section VHR
variable {E : VE} {y : MethodName} {bt : ByteArray} {nL : Nat} {rt : Option FieldType} {fr mc ms : Nat} {post : Option Value → va_W → Prop} {pc : Nat} {L : List (Option Value)} {st : List Value} {ws : va_W} {cl sl : Nat}
theorem VH_iload_n {j : Fin 4} {x : Int32} (hd : decode bt pc = .ok (.iload_n j, 1)) (hi : L[(j : Nat)]? = some (some (.int x))) (k : VH E y bt nL rt fr mc ms post (pc + 1) (L) (.int x :: st) (ws) (cl) (sl)) : VH E y bt nL rt fr mc ms post (pc) (L) (st) (ws) (cl) (sl) := by
  intro p e s m args below meth c H locs ls A C hx hl hP hD hS
  exact lv_iload_n C.1 C.2.1 hd rfl (hl.at hi) (k p e s m args below meth c H locs ls A C hx hl hP hD hS)
theorem VH_aload_n {j : Fin 4} {x : Nat} (hd : decode bt pc = .ok (.aload_n j, 1)) (hi : L[(j : Nat)]? = some (some (.ref x))) (k : VH E y bt nL rt fr mc ms post (pc + 1) (L) (.ref x :: st) (ws) (cl) (sl)) : VH E y bt nL rt fr mc ms post (pc) (L) (st) (ws) (cl) (sl) := by
  intro p e s m args below meth c H locs ls A C hx hl hP hD hS
  exact lv_aload_n C.1 C.2.1 hd rfl (hl.at hi) (k p e s m args below meth c H locs ls A C hx hl hP hD hS)
theorem VH_aload {i : Nat} {x : Nat} (hd : decode bt pc = .ok (.aload i, 2)) (hi : L[i]? = some (some (.ref x))) (k : VH E y bt nL rt fr mc ms post (pc + 2) (L) (.ref x :: st) (ws) (cl) (sl)) : VH E y bt nL rt fr mc ms post (pc) (L) (st) (ws) (cl) (sl) := by
  intro p e s m args below meth c H locs ls A C hx hl hP hD hS
  exact lv_aload C.1 C.2.1 hd (hl.at hi) (k p e s m args below meth c H locs ls A C hx hl hP hD hS)
theorem VH_iconst {n : Int} {v : Int32} (hd : decode bt pc = .ok (.iconst n, 1)) (hv : Int32.ofInt n = v) (k : VH E y bt nL rt fr mc ms post (pc + 1) (L) (.int v :: st) (ws) (cl) (sl)) : VH E y bt nL rt fr mc ms post (pc) (L) (st) (ws) (cl) (sl) := by
  intro p e s m args below meth c H locs ls A C hx hl hP hD hS
  exact lv_iconst C.1 C.2.1 hd hv (k p e s m args below meth c H locs ls A C hx hl hP hD hS)
theorem V_last (q : Nat) {a n : Nat} {f : Nat → Int64} {i : Int32} {x : Int64} (hd : decode bt pc = .ok (.lastore, 1)) (he : ws[q]? = some (a, .inl (cJ E, n, .inr (.inl f)))) (hin : vp_in i n) (k : V E y bt nL rt fr mc ms post (pc + 1) L st (ws.set q (a, .inl (cJ E, n, .inr (.inl (vp_updL f i.toNatClampNeg x))))) cl sl) : V E y bt nL rt fr mc ms post pc L (.long x :: .int i :: .ref a :: st) ws cl sl := by
  intro p e s m args below meth c H locs ls A C hl hP hD hS
  exact va_last C.1 C.2.1 C.2.2.2.2.2.2.2.2.1 hP hD hS q 2 he rfl hin hd (fun H locs hP hD hS => k p e s m args below meth c H locs ls A C hl hP hD hS)
theorem VH_callX (q : Nat) {y' : MethodName} {bt' : ByteArray} {nL' : Nat} {rt' : Option FieldType} {fr' mc' ms' : Nat} {post' : Option Value → va_W → Prop} {px' : va_W → Prop} {As st0 : List Value} {ix ci b n : Nat} {fs : List Value} {T : u_T} {N : Nat}
    (hM : MW y' bt' nL' rt' n) (hl' : MV y.cls ix y') (hd : decode bt pc = .ok (.invokevirtual ix, 3)) (hC : CtX E y' bt' nL' rt' fr' mc' ms' (.ref b :: As) ws post' px') (he : ws[q]? = some (b, .inr (ci, fs))) (hc : CL[ci]? = some (y'.cls, T, N))
    (hn : As.length = n) (hst : st0 = As.reverse ++ .ref b :: st) (hW : (st.map fun v => v.category).sum ≤ 8) (hfr : fr' + 1 ≤ fr) (hnL : nL' ≤ 21) (hcl : cl + mc' ≤ mc) (hsl : sl + ms' ≤ ms)
    (hcov : covers (⟨0, 12, 15, 13⟩ : ExceptionTableEntry) pc = true) (hlk : Cond.classLink y.cls 13 NSE ∈ TB) (hcast : ∀ (A : Nat → Prop) (s : State), E.2.2.2 A s → va_Nw (.castable NSE NSE) s)
    (k : ∀ (v : Option Value) (ws' : va_W), post' v ws' → V E y bt nL rt fr mc ms post (pc + 3) L (v.toList ++ st) ws' (cl + mc') (sl + ms'))
    (kx : ∀ (q : Nat) (ws' : va_W), px' ws' → V E y bt nL rt fr mc ms post 15 L [.ref q] ws' (cl + mc') (sl + ms')) : VH E y bt nL rt fr mc ms post pc L st0 ws cl sl := by
  intro p e s m args below meth c H locs ls A C ht hl hP hD hS
  have hts := C.2.2.2.2.2.1
  have hF : ∀ q, va_A ws H.size q → A q := by
    rintro q (⟨k, e9, h⟩ | h)
    · exact hD.2 k (q, e9) h
    · exact C.2.2.2.2.2.2.2.2.2.1 q (Nat.le_trans hS.1 h)
  have hr : vx_Run p E.1 e (RM fr mc ms) s m args below meth c H locs cl sl mc' ms' (F0 m pc ls st0) st (Q0 E (va_A ws H.size) post' (Value.ref b :: As).toArray) (XQ E (va_A ws H.size) px') (va_A ws H.size) := by
    refine vx_runV (C := y'.cls) (bytes := bt') (maxL := nL') (ret := rt') (n := n) ⟨C.1, C.2.1, C.2.2.2.1, C.2.2.2.2.1, hts⟩ (hC C.2.2.2.2.2.2.2.2.2.2.1 H.size) ⟨callB_of n hts (gUni0 hM.1) rfl rfl rfl (hts _ hM.2.1) (hts _ hl'.1) hM.2.2.1 ⟨hfr, ?_⟩, hts _ hl'.2.1, hts _ hl'.2.2⟩ ⟨Pc_blind C.2.2.2.2.2.2.2.2.2.2.1, va_recv C.2.2.2.2.2.2.2.2.1 hP hc he, Pc_start C hP hD hS⟩ rfl hn hl.1.1 hst ?_ hd ⟨hcl, hsl⟩
    · show 8 + (nL' + 11) + 40 * fr' ≤ 40 * fr
      omega
    · exact lv_room hW
  intro T hT X
  rcases hr T hT X with ⟨v, st₀, t, T', L9, h0, X', hL, e1, e2, ⟨⟨v', ws', hv, hp, hP1, hD1⟩, hz, hk⟩, stp⟩ | ⟨q9, st₀, t, T', L9, E9, ce, h0, X', hL, e1, e2, ⟨hnm, ws', hp, hP1, hD1, hz, hk⟩, hce, hcv, hcl9, stp⟩
  · cases hv
    rw [h0] at hz hk
    obtain ⟨t2, a1, b1⟩ := k v ws' hp p e s m args below meth c T'.heap (locs ++ L9) ls A C hl (by rw [e1]; exact hP1) (hD1.weaken (fun _ _ _ h => hF _ h))
      ⟨Nat.le_trans hS.1 (by rw [e1]; exact hz), fun q h1 h2 => by rw [e1, hk q (Nat.lt_of_lt_of_le h1 hS.1) (fun z => h2 (hF q z))]; exact hS.2.1 q h1 h2, fun q hq => by
        rcases List.mem_append.mp hq with h | h
        · exact hS.2.2 q h
        · exact hF _ (hL q h)⟩ T' rfl X'
    exact ⟨t2, stp t2 a1, b1⟩
  · subst hnm
    rw [h0] at hz hk
    have hw := kx q9 ws' hp p e s m args below meth c T'.heap (locs ++ L9) ls A C hl (by rw [e1]; exact hP1) (hD1.weaken (fun _ _ _ h => hF _ h))
      ⟨Nat.le_trans hS.1 (by rw [e1]; exact hz), fun q h1 h2 => by rw [e1, hk q (Nat.lt_of_lt_of_le h1 hS.1) (fun z => h2 (hF q z))]; exact hS.2.1 q h1 h2, fun q hq => by
        rcases List.mem_append.mp hq with h | h
        · exact hS.2.2 q h
        · exact hF _ (hL q h)⟩
    obtain ⟨t2, a1, b1⟩ := vx_catch (E := NSE) (name := NSE) (pc := pc) (rest := st) C.2.2.2.2.1 [] (⟨0, 12, 15, 13⟩ : ExceptionTableEntry) [] ht (fun z hz => nomatch hz) hcov (by decide) (hts _ hlk) (va_Nw.use rfl (hcast A s C.2.2.2.2.2.2.2.2.2.2.2)) (by rw [e1]; exact hce) hcv hcl9 hw T' rfl X'
    exact ⟨t2, stp.trans a1, b1⟩
theorem V_callSW {y' : MethodName} {bt' : ByteArray} {nL' : Nat} {rt' : Option FieldType} {fr' mc' ms' : Nat} {post' : Option Value → va_W → Prop} {As st0 : List Value} {ix n : Nat}
    (hcw : Cond.codeWith y' bt' nL' rt' HHw ∈ TB) (hini : Cond.initialized y'.cls ∈ TB) (hnm : y'.cls ≠ "java/lang/invoke/MethodHandle" ∧ y'.cls ≠ "java/lang/invoke/VarHandle" ∧ (parseMethodDescriptor y'.desc).map (fun d => d.parameters.length) = some n) (hl' : MS y.cls ix y') (hd : decode bt pc = .ok (.invokestatic ix, 3)) (hC : CtW E y' bt' nL' rt' fr' mc' ms' As ws post')
    (hn : As.length = n) (hst : st0 = As.reverse ++ st) (hW : (st.map fun v => v.category).sum ≤ 8) (hfr : fr' + 1 ≤ fr) (hnL : nL' ≤ 21) (hcl : cl + mc' ≤ mc) (hsl : sl + ms' ≤ ms)
    (k : ∀ (v : Option Value) (ws' : va_W), post' v ws' → V E y bt nL rt fr mc ms post (pc + 3) L (v.toList ++ st) ws' (cl + mc') (sl + ms')) : V E y bt nL rt fr mc ms post pc L st0 ws cl sl := by
  intro p e s m args below meth c H locs ls A C hl hP hD hS
  have hts := C.2.2.2.2.2.1
  refine V_run (post' := post') (a := As.toArray) (y' := y') C hl hD hS ?_ k
  refine vx_runSW (hh := HHw) (bytes := bt') (maxL := nL') (ret := rt') (n := n) ⟨C.1, C.2.1, C.2.2.2.1, C.2.2.2.2.1, hts⟩ (hC C.2.2.2.2.2.2.2.2.2.2.1 H.size) ⟨⟨rfl, rfl, hfr, ?_, pay_in hts ?_, List.mem_cons_self⟩, hts _ hcw, hts _ hini, ⟨hnm.1, hnm.2.1⟩, ?_, hts _ hl'.1, hts _ hl'.2⟩ ⟨Pc_blind C.2.2.2.2.2.2.2.2.2.2.1, Pc_start C hP hD hS⟩ rfl hn hl.1.1 hst ?_ hd ⟨hcl, hsl⟩
  · show 8 + (nL' + 11) + 40 * fr' ≤ 40 * fr
    omega
  · intro w hw
    rcases List.mem_cons.mp hw with rfl | hw
    · exact ⟨hcw, TB_good _ hcw⟩
    · exact ⟨hw, TB_good _ hw⟩
  · intro sig h
    have h2 := hnm.2.2
    rw [h] at h2
    exact (Option.some.inj h2).symm
  · exact lv_room hW
end VHR
theorem CtW_of {E : VE} {y : MethodName} {bt : ByteArray} {nL : Nat} {rt : Option FieldType} {fr mc ms : Nat} {av : List Value} {ws : va_W} {post : Option Value → va_W → Prop} (hcw : Cond.codeWith y bt nL rt HHw ∈ TB) (hpn : plainName y.cls = true) (hav0 : av.all (fun v => decide (v.category = 1)) = true) (hnl : av.length ≤ nL)
    (k : VH E y bt nL rt fr mc ms post 0 (av.map some ++ List.replicate (nL - av.length) none) [] ws 0 0) : CtW E y bt nL rt fr mc ms av ws post := by
  have hav : ∀ v ∈ av, v.category = 1 := fun v hv => of_decide_eq_true (List.all_eq_true.mp hav0 v hv)
  intro hG sz
  refine Met_ofWH (cc := bt) (maxL := nL) (ret := rt) (hh := HHw) hpn rfl ?_
  intro p e s m args below meth c s₁ B hml hv
  obtain ⟨rfl, hsz, hP, hK, hD0, hG0⟩ := hv
  subst hsz
  rw [lg_entry_eq]
  have hl := lv_entry av (n := nL) (by rw [sl_len av hav]; exact hnl)
  have hts := atoms_spec (ws := Cond.codeWith y bt nL rt HHw :: TB) B.pre
  refine k p e s m _ below meth c s.heap [] _ _ ⟨B.exec, B.bytes, B.returns, hml, findClass_of_methodNamed B.named, fun w hw => hts w (List.mem_cons_of_mem _ hw), B.notSynchronized, (name_of_methodNamed B.named B.method).1, hK, fun q h => Or.inr h, hG, hG0⟩ (vx_table (x := y) B (hts _ List.mem_cons_self)) ?_ hP (hD0.self (sz := s.heap.size)) va_S.rf
  have key : ∀ (i : Nat) (v : Value), (av.map some ++ List.replicate (nL - av.length) none)[i]? = some (some v) → av[i]? = some v := by
    intro i v h
    by_cases hi : i < av.length
    · rw [List.getElem?_append_left (by simpa using hi), List.getElem?_map] at h
      cases ha : av[i]? with
      | none => rw [ha] at h; cases h
      | some w => rw [ha] at h; cases h; rfl
    · rw [List.getElem?_append_right (by simpa using Nat.not_lt.mp hi)] at h
      have := List.eq_of_mem_replicate (List.mem_of_getElem? h)
      cases this
  refine ⟨⟨hl.1, hl.2.1, fun q hq => ?_⟩, fun i v h => hav v (List.mem_of_getElem? (key i v h))⟩
  have h1 := lvOf_args av hav 0 q.1 q.2 (key _ _ (mem_lvOf.mp hq))
  rw [Nat.zero_add] at h1
  exact hl.2.2 q h1
section WSL
variable {E : VE} {ad : Nat → Nat} {el : Nat} {g : Nat → Nat → Int32} {w0 ws : va_W} {tE mi s1 s2 : Nat}
theorem xa_cast : Cond.castable NSE NSE ∈ XL.filter (fun w => !goodWord w) := by decide +kernel
set_option maxHeartbeats 4000000 in
set_option maxRecDepth 20000 in
theorem ct_L_was (hX : GX E s1 s2) (hE : GH E tE mi) (hw : WF E ad el g w0 ws) {n : Nat} {T : Nat → TR} {tb xa xo xb : Nat → Nat} {qe cap : Nat} {fe : Nat → Option Nat} (hd : DY0 E el tE n T ws tb xa xo xb qe cap fe) (hn : g 24 2 = nI n) (hn60 : n ≤ 60) (hTk : TOK n T) {oa qo : Nat} {f : Nat → Int64} (ho : ws[qo]? = some (oa, .inl (cJ E, 1, .inr (.inl f)))) (tt pp bh : Int32) : CtW E yL_was cL_was 6 (some .int) 7 1 6 [.ref (ad 0), .int tt, .int pp, .int bh, .ref oa] ws (fun r w => (wasOK g T tt pp = true ∧ r = some (.int 0) ∧ w = ws.set qo (oa, .inl (cJ E, 1, .inr (.inl (vp_updL f (0 : Int32).toNatClampNeg (wasV T tt pp bh).toInt64))))) ∨ (wasOK g T tt pp = false ∧ r = some (.int 1) ∧ w = ws)) := by
  refine CtW_of wl_1 (by decide +kernel) rfl (Nat.le_of_ble_eq_true rfl) ?_
  refine VH_aload dL_was_0 rfl ?_
  refine VH_iconst (v := 0) dL_was_2 (by decide) ?_
  refine VH_aload_n dL_was_3 rfl ?_
  refine VH_iload_n dL_was_4 rfl ?_
  refine VH_iload_n dL_was_5 rfl ?_
  refine VH_iload_n dL_was_6 rfl ?_
  refine VH_callX 0 mw_X7_was mv_L_7 dL_was_7 (ct_X7_was hX hE hw hd hn hn60 hTk tt pp bh) hw.p0 rfl rfl rfl (Nat.le_of_ble_eq_true rfl) (by decide) (by decide) (by decide) (by decide) (by decide +kernel) wl_2 (fun A s h => (hX.2 A s h).1 _ xa_cast) (fun r w hp => ?_) (fun q w hp => ?_)
  · obtain ⟨hok, rfl, rfl⟩ := hp
    refine V_i2l dL_was_10 ?_
    refine V_last qo dL_was_11 ho (show vp_in (nI 0) 1 from vp_in_nI (by decide) (by decide)) ?_
    refine V_goto 19 dL_was_12 (by decide) ?_
    refine V_iconst (v := 0) dL_was_19 (by decide) ?_
    refine V_iret dL_was_20 rfl (by decide) (by decide) ?_
    exact Or.inl ⟨hok, rfl, rfl⟩
  · obtain ⟨hok, rfl⟩ := hp
    refine V_astore dL_was_15 (by decide) ?_
    refine V_iconst (v := 1) dL_was_17 (by decide) ?_
    refine V_iret dL_was_18 rfl (by decide) (by decide) ?_
    exact Or.inr ⟨hok, rfl, rfl⟩
end WSL
