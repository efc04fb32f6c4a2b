/-! ===== rules for references, arrays of Object, the library's natives ===== -/
abbrev CLN : MethodName := ⟨"java/lang/Object", "clone", "()Ljava/lang/Object;"⟩
abbrev CLI : MethodName := ⟨"[I", "clone", "()Ljava/lang/Object;"⟩
abbrev GCL : MethodName := ⟨"java/lang/Object", "getClass", "()Ljava/lang/Class;"⟩
abbrev OB : String := "java/lang/Object"
abbrev OBA : String := "[Ljava/lang/Object;"
/-- a row of references -/
abbrev rO (E : VE) (n : Nat) (f : Nat → Option Nat) : va_E := .inl (cO E, n, .inr (.inr (.inr (.inr f))))
def GH (E : VE) (tE mi : Nat) : Prop := NST E ∧ ∀ (A : Nat → Prop) (s : State), E.2.2.2 A s → va_Nw (.castable "[I" "java/lang/Cloneable") s ∧ va_Nw (.castable "TrainDesk$Train" OB) s ∧ va_Z "java/util/ArrayList" "DEFAULTCAPACITY_EMPTY_ELEMENTDATA" OBA (.ref tE) A s s.heap ∧ va_T (.object OB) tE 0 (fun _ => .null) A s s.heap ∧ va_AO OB s ∧ va_Mi OBA mi s ∧ va_Dc s
set_option maxRecDepth 20000 in
theorem wd_cl1 : Cond.sameMethod "[I" "java/lang/Object" "clone" "()Ljava/lang/Object;" ∈ TB := TB_of 454 rfl rfl
set_option maxRecDepth 20000 in
theorem wd_cl2 : Cond.native CLN ∈ TB := TB_of 455 rfl rfl
set_option maxRecDepth 20000 in
theorem wd_cl3 : Cond.instanceMethod CLN ∈ TB := TB_of 456 rfl rfl
set_option maxRecDepth 20000 in
theorem wd_cl4 : Cond.selects "[I" CLI CLN ∈ TB := TB_of 457 rfl rfl
set_option maxRecDepth 20000 in
theorem wd_clL_J7 : Cond.methodLink RJ7 316 CLI ∈ TB := TB_of 453 rfl rfl
set_option maxRecDepth 20000 in
theorem wd_clL_X8 : Cond.methodLink RX8 161 CLI ∈ TB := TB_of 969 rfl rfl
set_option maxRecDepth 20000 in
theorem wd_clC_J7 : Cond.classLink RJ7 317 "[I" ∈ TB := TB_of 459 rfl rfl
set_option maxRecDepth 20000 in
theorem wd_clC_X8 : Cond.classLink RX8 162 "[I" ∈ TB := TB_of 970 rfl rfl
set_option maxRecDepth 20000 in
theorem wd_ac1 : Cond.methodLink RJ7 150 arraycopyName ∈ TB := TB_of 463 rfl rfl
set_option maxRecDepth 20000 in
theorem wd_ac2 : Cond.native arraycopyName ∈ TB := TB_of 465 rfl rfl
set_option maxRecDepth 20000 in
theorem wd_ac3 : Cond.static arraycopyName ∈ TB := TB_of 464 rfl rfl
set_option maxRecDepth 20000 in
theorem wd_ac4 : Cond.initialized "java/lang/System" ∈ TB := TB_of 59 rfl rfl
set_option maxRecDepth 20000 in
theorem wd_gc1 : Cond.methodLink RJ7 86 GCL ∈ TB := TB_of 518 rfl rfl
set_option maxRecDepth 20000 in
theorem wd_gc2 : Cond.instanceMethod GCL ∈ TB := TB_of 519 rfl rfl
set_option maxRecDepth 20000 in
theorem wd_gc3 : Cond.native GCL ∈ TB := TB_of 532 rfl rfl
set_option maxRecDepth 20000 in
theorem wd_gc4 : Cond.selects OBA GCL GCL ∈ TB := TB_of 1026 rfl rfl
set_option maxRecDepth 20000 in
theorem wd_lc : Cond.classLink RJ7 110 OBA ∈ TB := TB_of 536 rfl rfl
set_option maxRecDepth 20000 in
theorem wd_no7 : Cond.classLink RJ7 2 OB ∈ TB := TB_of 538 rfl rfl
set_option maxRecDepth 20000 in
theorem wd_noA : Cond.classLink RJx4a65c 7 OB ∈ TB := TB_of 540 rfl rfl
set_option maxRecDepth 20000 in
theorem wd_stE : Cond.fieldLink RJx4a65c 39 "java/util/ArrayList" "DEFAULTCAPACITY_EMPTY_ELEMENTDATA" OBA ∈ TB := TB_of 196 rfl rfl
set_option maxRecDepth 20000 in
theorem wd_mc : Cond.fieldLink RJx4a65c 63 "java/util/ArrayList" "modCount" "I" ∈ TB := TB_of 201 rfl rfl
set_option maxRecDepth 20000 in
theorem wd_mcS : Cond.sameField "java/util/ArrayList" "java/util/AbstractList" "modCount" "I" ∈ TB := TB_of 202 rfl rfl
section JR
variable {E : VE} {y : MethodName} {bt : ByteArray} {nL : Nat} {rt : Option FieldType} {fr mc ms : Nat} {post : Option Value → va_W → Prop} {pc : Nat} {L : List (Option Value)} {st : List Value} {ws : va_W} {cl sl tE mi : Nat}
theorem V_cloneI (q : Nat) {ix a n : Nat} {f : Nat → Int32} (hE : GH E tE mi) (hlk : Cond.methodLink y.cls ix CLI ∈ TB) (hd : decode bt pc = .ok (.invokevirtual ix, 3)) (he : ws[q]? = some (a, .inl (cI E, n, .inl f))) (hfr : 1 ≤ fr) (hW : (st.map fun v => v.category).sum ≤ 8) (hcl : cl + 1 ≤ mc) (hsl : sl + n ≤ ms) (k : ∀ q : Nat, V E y bt nL rt fr mc ms post (pc + 3) (L) (.ref q :: st) (ws ++ [(q, .inl (cI E, n, .inl f))]) (cl + 1) (sl + n)) : V E y bt nL rt fr mc ms post (pc) (L) (.ref a :: st) (ws) (cl) (sl) := by
  intro p e s m args below meth c H locs ls A C hl hP hD hS
  obtain ⟨g1, -⟩ := hE.2 A s C.2.2.2.2.2.2.2.2.2.2.2
  refine va_clone C.1 C.2.1 (C.2.2.2.1.trans hl.1.1.symm) C.2.2.2.2.1 (C.2.2.2.2.2.1 _ hlk) (C.2.2.2.2.2.1 _ wd_cl1) (C.2.2.2.2.2.1 _ wd_cl2) (C.2.2.2.2.2.1 _ wd_cl3) (C.2.2.2.2.2.1 _ wd_cl4) g1 C.2.2.2.2.2.2.2.2.1 hP hD hS C.2.2.2.2.2.2.2.2.2.1 q 0 he rfl (C.2.2.2.2.2.2.2.2.1.2 0 (cI E, .int) rfl).2 (fun i v hv => ?_) hfr (by show _ + 14 ≤ 40 * fr; omega) hcl hsl hd (fun q H hK hP hD hS => k q p e s m args below meth c H locs ls A C hl hP hD hS)
  have hi : i < n := by
    have := (Array.getElem?_eq_some_iff.mp hv).1
    simpa [vp_cell, arrV] using this
  rw [show vp_cell (cI E) (n, .inl f) = arrV (cI E) n (fun j => .int (f j)) from rfl, arrV_read _ _ hi] at hv
  cases hv
  rfl

theorem V_castI (q : Nat) {ix a : Nat} {x : vp_A} (hlk : Cond.classLink y.cls ix "[I" ∈ TB) (hd : decode bt pc = .ok (.checkcast ix, 3)) (he : ws[q]? = some (a, .inl (cI E, x))) (k : V E y bt nL rt fr mc ms post (pc + 3) (L) (.ref a :: st) (ws) (cl) (sl)) : V E y bt nL rt fr mc ms post (pc) (L) (.ref a :: st) (ws) (cl) (sl) := by
  intro p e s m args below meth c H locs ls A C hl hP hD hS
  exact va_castA C.1 C.2.1 C.2.2.2.2.1 (C.2.2.2.2.2.1 _ hlk) hP q he (C.2.2.2.2.2.2.2.2.1.2 0 (cI E, .int) rfl).2 hd (k p e s m args below meth c H locs ls A C hl hP hD hS)

theorem V_castT (q : Nat) {ix a : Nat} {fs : List Value} (hlk : Cond.classLink y.cls ix RX6 ∈ TB) (hd : decode bt pc = .ok (.checkcast ix, 3)) (he : ws[q]? = some (a, .inr (6, fs))) (k : V E y bt nL rt fr mc ms post (pc + 3) (L) (.ref a :: st) (ws) (cl) (sl)) : V E y bt nL rt fr mc ms post (pc) (L) (.ref a :: st) (ws) (cl) (sl) := by
  intro p e s m args below meth c H locs ls A C hl hP hD hS
  exact va_castS C.1 C.2.1 C.2.2.2.2.1 (C.2.2.2.2.2.1 _ hlk) (C.2.2.2.2.2.2.2.2.1.1 6 (RX6, TX6, 4) rfl).2 (va_recv C.2.2.2.2.2.2.2.2.1 hP (ci := 6) (q := (RX6, TX6, 4)) rfl he) hd (k p e s m args below meth c H locs ls A C hl hP hD hS)

theorem V_getsE (hE : GH E tE mi) (hy : y.cls = RJx4a65c) (hd : decode bt pc = .ok (.getstatic 39, 3)) (k : V E y bt nL rt fr mc ms post (pc + 3) (L) (.ref tE :: st) (ws) (cl) (sl)) : V E y bt nL rt fr mc ms post (pc) (L) (st) (ws) (cl) (sl) := by
  intro p e s m args below meth c H locs ls A C hl hP hD hS
  obtain ⟨-, -, g3, -⟩ := hE.2 A s C.2.2.2.2.2.2.2.2.2.2.2
  exact va_gets C.1 C.2.1 g3 hS C.2.2.2.2.1 (by rw [hy]; exact C.2.2.2.2.2.1 _ wd_stE) (fun _ h9 => h9) hd (k p e s m args below meth c H locs ls A C hl hP hD hS)

theorem V_tlenE (hE : GH E tE mi) (hd : decode bt pc = .ok (.arraylength, 1)) (k : V E y bt nL rt fr mc ms post (pc + 1) (L) (.int 0 :: st) (ws) (cl) (sl)) : V E y bt nL rt fr mc ms post (pc) (L) (.ref tE :: st) (ws) (cl) (sl) := by
  intro p e s m args below meth c H locs ls A C hl hP hD hS
  obtain ⟨-, -, -, g4, -⟩ := hE.2 A s C.2.2.2.2.2.2.2.2.2.2.2
  exact va_tlen C.1 C.2.1 g4 hS rfl hd (k p e s m args below meth c H locs ls A C hl hP hD hS)

theorem V_alenO (q : Nat) {a n : Nat} {f : Nat → Option Nat} (hd : decode bt pc = .ok (.arraylength, 1)) (he : ws[q]? = some (a, rO E n f)) (k : V E y bt nL rt fr mc ms post (pc + 1) (L) (.int (nI n) :: st) (ws) (cl) (sl)) : V E y bt nL rt fr mc ms post (pc) (L) (.ref a :: st) (ws) (cl) (sl) := by
  intro p e s m args below meth c H locs ls A C hl hP hD hS
  exact va_alen C.1 C.2.1 C.2.2.2.2.2.2.2.2.1 hP q 3 he rfl rfl hd (k p e s m args below meth c H locs ls A C hl hP hD hS)

theorem V_aald (q : Nat) {a n : Nat} {f : Nat → Option Nat} {i : Int32} (hd : decode bt pc = .ok (.aaload, 1)) (he : ws[q]? = some (a, rO E n f)) (hin : vp_in i n) (k : V E y bt nL rt fr mc ms post (pc + 1) (L) (va_rf (f i.toNatClampNeg) :: st) (ws) (cl) (sl)) : V E y bt nL rt fr mc ms post (pc) (L) (.int i :: .ref a :: st) (ws) (cl) (sl) := by
  intro p e s m args below meth c H locs ls A C hl hP hD hS
  exact va_aldq C.1 C.2.1 C.2.2.2.2.2.2.2.2.1 hP q 3 he rfl hin hd (k p e s m args below meth c H locs ls A C hl hP hD hS)

theorem V_aast (q qk : Nat) {a n v : Nat} {f : Nat → Option Nat} {vs : List Value} {i : Int32} (hE : GH E tE mi) (hd : decode bt pc = .ok (.aastore, 1)) (he : ws[q]? = some (a, rO E n f)) (hv : ws[qk]? = some (v, .inr (6, vs))) (hin : vp_in i n) (k : V E y bt nL rt fr mc ms post (pc + 1) (L) (st) (ws.set q (a, rO E n (va_up f i.toNatClampNeg (some v)))) (cl) (sl)) : V E y bt nL rt fr mc ms post (pc) (L) (.ref v :: .int i :: .ref a :: st) (ws) (cl) (sl) := by
  intro p e s m args below meth c H locs ls A C hl hP hD hS
  obtain ⟨-, g2, -⟩ := hE.2 A s C.2.2.2.2.2.2.2.2.2.2.2
  exact va_astqO (r := (RX6, TX6, 4)) C.1 C.2.1 C.2.2.2.2.2.2.2.2.1 hP hD hS q 3 qk 6 he rfl g2 hv rfl hin hd (fun H locs hP hD hS => k p e s m args below meth c H locs ls A C hl hP hD hS)

theorem V_newO {ix : Nat} {n : Int32} {N : Nat} (hE : GH E tE mi) (hlk : Cond.classLink y.cls ix OB ∈ TB) (hd : decode bt pc = .ok (.anewarray ix, 3)) (hn : ¬ n < 0) (hN : n.toNatClampNeg = N) (hb : N * 4 ≤ 536870912) (hcl : cl + 1 ≤ mc) (hsl : sl + N ≤ ms) (k : ∀ q : Nat, V E y bt nL rt fr mc ms post (pc + 3) (L) (.ref q :: st) (ws ++ [(q, rO E N (fun _ => none))]) (cl + 1) (sl + N)) : V E y bt nL rt fr mc ms post (pc) (L) (.int n :: st) (ws) (cl) (sl) := by
  intro p e s m args below meth c H locs ls A C hl hP hD hS
  obtain ⟨-, -, -, -, g5, -⟩ := hE.2 A s C.2.2.2.2.2.2.2.2.2.2.2
  refine va_newq C.1 C.2.1 C.2.2.2.2.1 (C.2.2.2.2.2.1 _ hlk) g5 C.2.2.2.2.2.2.2.2.1 hP hD hS C.2.2.2.2.2.2.2.2.2.1 hn hN hb hcl hsl hd (fun q cA H hK hP hD hS => ?_)
  obtain ⟨kA, comp, -, -, -, e1⟩ := (hK.2 4 (cA, .object OB) rfl).2
  obtain ⟨kB, comp2, -, -, -, e2⟩ := (hK.2 3 (cO E, .object OB) rfl).2
  have e3 : cA = cO E := Option.some.inj (e1.symm.trans e2)
  subst e3
  exact k q p e s m args below meth c H locs ls A C hl hP hD hS

theorem V_acmp_eq {x z : Nat} {off : Int} (tgt : Nat) (hd : decode bt pc = .ok (.if_acmp .eq off, 3)) (ht : (pc : Int) + off = (tgt : Int)) (kt : x = z → V E y bt nL rt fr mc ms post (tgt) (L) (st) (ws) (cl) (sl)) (kf : ¬ x = z → V E y bt nL rt fr mc ms post (pc + 3) (L) (st) (ws) (cl) (sl)) : V E y bt nL rt fr mc ms post (pc) (L) (.ref z :: .ref x :: st) (ws) (cl) (sl) := by
  intro p e s m args below meth c H locs ls A C hl hP hD hS
  exact lv_acmp_eq (rx := some x) (ry := some z) C.1 C.2.1 hd ht (fun h => kt (Option.some.inj h) p e s m args below meth c H locs ls A C hl hP hD hS) (fun h => kf (fun e => h (by rw [e])) p e s m args below meth c H locs ls A C hl hP hD hS)

theorem V_acmp_ne {x z : Nat} {off : Int} (tgt : Nat) (hd : decode bt pc = .ok (.if_acmp .ne off, 3)) (ht : (pc : Int) + off = (tgt : Int)) (kt : ¬ x = z → V E y bt nL rt fr mc ms post (tgt) (L) (st) (ws) (cl) (sl)) (kf : x = z → V E y bt nL rt fr mc ms post (pc + 3) (L) (st) (ws) (cl) (sl)) : V E y bt nL rt fr mc ms post (pc) (L) (.ref z :: .ref x :: st) (ws) (cl) (sl) := by
  intro p e s m args below meth c H locs ls A C hl hP hD hS
  exact lv_acmp_ne (rx := some x) (ry := some z) C.1 C.2.1 hd ht (fun h => kt (fun e => h (by rw [e])) p e s m args below meth c H locs ls A C hl hP hD hS) (fun h => kf (Option.some.inj h) p e s m args below meth c H locs ls A C hl hP hD hS)

theorem V_null (hd : decode bt pc = .ok (.aconst_null, 1)) (k : V E y bt nL rt fr mc ms post (pc + 1) (L) (.null :: st) (ws) (cl) (sl)) : V E y bt nL rt fr mc ms post (pc) (L) (st) (ws) (cl) (sl) := by
  intro p e s m args below meth c H locs ls A C hl hP hD hS
  exact lv_null C.1 C.2.1 hd (k p e s m args below meth c H locs ls A C hl hP hD hS)

theorem V_ldcM (hE : GH E tE mi) (hy : y.cls = RJ7) (hd : decode bt pc = .ok (.ldc 110, 2)) (k : V E y bt nL rt fr mc ms post (pc + 2) (L) (.ref mi :: st) (ws) (cl) (sl)) : V E y bt nL rt fr mc ms post (pc) (L) (st) (ws) (cl) (sl) := by
  intro p e s m args below meth c H locs ls A C hl hP hD hS
  obtain ⟨-, -, -, -, -, g6, -⟩ := hE.2 A s C.2.2.2.2.2.2.2.2.2.2.2
  exact va_ldcM C.1 C.2.1 C.2.2.2.2.1 (by rw [hy]; exact C.2.2.2.2.2.1 _ wd_lc) g6 hd (k p e s m args below meth c H locs ls A C hl hP hD hS)

theorem V_getC (q : Nat) {a n : Nat} {f : Nat → Option Nat} (hE : GH E tE mi) (hy : y.cls = RJ7) (hd : decode bt pc = .ok (.invokevirtual 86, 3)) (he : ws[q]? = some (a, rO E n f)) (hfr : 1 ≤ fr) (hW : (st.map fun v => v.category).sum ≤ 8) (k : V E y bt nL rt fr mc ms post (pc + 3) (L) (.ref mi :: st) (ws) (cl) (sl)) : V E y bt nL rt fr mc ms post (pc) (L) (.ref a :: st) (ws) (cl) (sl) := by
  intro p e s m args below meth c H locs ls A C hl hP hD hS
  obtain ⟨-, -, -, -, -, g6, g7⟩ := hE.2 A s C.2.2.2.2.2.2.2.2.2.2.2
  obtain ⟨kB, comp2, -, -, -, e2⟩ := (C.2.2.2.2.2.2.2.2.1.2 3 (cO E, .object OB) rfl).2
  exact va_getC C.1 C.2.1 (C.2.2.2.1.trans hl.1.1.symm) C.2.2.2.2.1 (by rw [hy]; exact C.2.2.2.2.2.1 _ wd_gc1) (va_Dc.use g7) (C.2.2.2.2.2.1 _ wd_gc4) (C.2.2.2.2.2.1 _ wd_gc2) (C.2.2.2.2.2.1 _ wd_gc3) g6 ⟨_, hP q _ he, rfl, e2⟩ hfr (by show _ + 14 ≤ 40 * fr; omega) hd (k p e s m args below meth c H locs ls A C hl hP hD hS)

theorem V_copyI (q0 q1 : Nat) {a0 a n0 n1 : Nat} {f h : Nat → Int32} {sp dp n : Int32} (hy : y.cls = RJ7) (hd : decode bt pc = .ok (.invokestatic 150, 3)) (he0 : ws[q0]? = some (a0, .inl (cI E, n0, .inl f))) (he1 : ws[q1]? = some (a, .inl (cI E, n1, .inl h))) (h1 : ¬ sp < 0) (h2 : ¬ dp < 0) (h3 : ¬ n < 0) (h4 : sp.toNatClampNeg + n.toNatClampNeg ≤ n0) (h5 : dp.toNatClampNeg + n.toNatClampNeg ≤ n1) (hfr : 1 ≤ fr) (hW : (st.map fun v => v.category).sum ≤ 8) (k : V E y bt nL rt fr mc ms post (pc + 3) (L) (st) (ws.set q1 (a, .inl (cI E, n1, .inl (va_cpy f h sp.toNatClampNeg dp.toNatClampNeg n.toNatClampNeg)))) (cl) (sl)) : V E y bt nL rt fr mc ms post (pc) (L) (.int n :: .int dp :: .ref a :: .int sp :: .ref a0 :: st) (ws) (cl) (sl) := by
  intro p e s m args below meth c H locs ls A C hl hP hD hS
  exact va_copyi C.1 C.2.1 (C.2.2.2.1.trans hl.1.1.symm) C.2.2.2.2.1 (by rw [hy]; exact C.2.2.2.2.2.1 _ wd_ac1) (C.2.2.2.2.2.1 _ wd_ac2) (C.2.2.2.2.2.1 _ wd_ac3) (C.2.2.2.2.2.1 _ wd_ac4) C.2.2.2.2.2.2.2.2.1 hP hD hS q0 q1 0 0 he0 he1 rfl rfl rfl h1 h2 h3 h4 h5 (fun _ _ => rfl) hfr (by show _ + (7 + 11) ≤ 40 * fr; omega) hd (fun H locs hP hD hS => k p e s m args below meth c H locs ls A C hl hP hD hS)

theorem V_copyO (q0 q1 : Nat) {a0 a n0 n1 : Nat} {f h : Nat → Option Nat} {sp dp n : Int32} (hE : GH E tE mi) (hy : y.cls = RJ7) (hd : decode bt pc = .ok (.invokestatic 150, 3)) (he0 : ws[q0]? = some (a0, rO E n0 f)) (he1 : ws[q1]? = some (a, rO E n1 h)) (hel : ∀ i v, i < n0 → f i = some v → ∃ (qv : Nat) (fs : List Value), ws[qv]? = some (v, .inr (6, fs))) (h1 : ¬ sp < 0) (h2 : ¬ dp < 0) (h3 : ¬ n < 0) (h4 : sp.toNatClampNeg + n.toNatClampNeg ≤ n0) (h5 : dp.toNatClampNeg + n.toNatClampNeg ≤ n1) (hfr : 1 ≤ fr) (hW : (st.map fun v => v.category).sum ≤ 8) (k : V E y bt nL rt fr mc ms post (pc + 3) (L) (st) (ws.set q1 (a, rO E n1 (va_cpy f h sp.toNatClampNeg dp.toNatClampNeg n.toNatClampNeg))) (cl) (sl)) : V E y bt nL rt fr mc ms post (pc) (L) (.int n :: .int dp :: .ref a :: .int sp :: .ref a0 :: st) (ws) (cl) (sl) := by
  intro p e s m args below meth c H locs ls A C hl hP hD hS
  obtain ⟨-, g2, -⟩ := hE.2 A s C.2.2.2.2.2.2.2.2.2.2.2
  refine va_copyM (E0 := OB) (E1 := OB) C.1 C.2.1 (C.2.2.2.1.trans hl.1.1.symm) C.2.2.2.2.1 (by rw [hy]; exact C.2.2.2.2.2.1 _ wd_ac1) (C.2.2.2.2.2.1 _ wd_ac2) (C.2.2.2.2.2.1 _ wd_ac3) (C.2.2.2.2.2.1 _ wd_ac4) C.2.2.2.2.2.2.2.2.1 hP hD hS q0 q1 3 3 he0 he1 rfl rfl h1 h2 h3 h4 h5 (fun i hi v hv => ?_) hfr (by show _ + (7 + 11) ≤ 40 * fr; omega) hd (fun H locs hP hD hS => k p e s m args below meth c H locs ls A C hl hP hD hS)
  obtain ⟨qv, fs, hq⟩ := hel _ v (by omega) hv
  refine va_rAny (r := (RX6, TX6, 4)) C.2.2.2.2.2.2.2.2.1 hP hq rfl (fun comp c0 e1 e2 => ?_)
  obtain ⟨cc2, ct2, f1, f2, f3⟩ := Cond.castable_spec g2
  have e4 : cc2 = c0 := Option.some.inj (f1.symm.trans e2)
  have e5 : ct2 = comp := Option.some.inj (f2.symm.trans e1)
  rw [← e4, ← e5]
  exact f3

theorem V_getMC (q : Nat) {a : Nat} {fs : List Value} {v : Value} (hy : y.cls = RJx4a65c) (hd : decode bt pc = .ok (.getfield 63, 3)) (he : ws[q]? = some (a, .inr (9, fs))) (hv : fs[0]? = some v) (k : V E y bt nL rt fr mc ms post (pc + 3) (L) (v :: st) (ws) (cl) (sl)) : V E y bt nL rt fr mc ms post (pc) (L) (.ref a :: st) (ws) (cl) (sl) := by
  intro p e s m args below meth c H locs ls A C hl hP hD hS
  exact va_get (C := RJx4a65c) (T := TJx4a65c) (N := 3) C.1 C.2.1 C.2.2.2.2.2.1 ui_Jx4a65c C.2.2.2.2.1 C.2.2.2.2.2.2.2.2.1 hP q he rfl 0 (by decide) (by rw [hy]; exact C.2.2.2.2.2.1 _ wd_mc) (u_same (C.2.2.2.2.2.1 _ wd_mcS)) hv hd (k p e s m args below meth c H locs ls A C hl hP hD hS)

theorem V_putMC (q : Nat) {a : Nat} {fs : List Value} {x : Int32} (hy : y.cls = RJx4a65c) (hd : decode bt pc = .ok (.putfield 63, 3)) (he : ws[q]? = some (a, .inr (9, fs))) (hj : 0 < fs.length) (k : V E y bt nL rt fr mc ms post (pc + 3) (L) (st) (ws.set q (a, .inr (9, fs.set 0 (.int x)))) (cl) (sl)) : V E y bt nL rt fr mc ms post (pc) (L) (.int x :: .ref a :: st) (ws) (cl) (sl) := by
  intro p e s m args below meth c H locs ls A C hl hP hD hS
  exact va_put (C := RJx4a65c) (T := TJx4a65c) (N := 3) (ty := .int) C.1 C.2.1 C.2.2.2.2.2.1 ui_Jx4a65c tyJx4a65c tyJx4a65c_ok nmJx4a65c C.2.2.2.2.1 C.2.2.2.2.2.2.2.2.1 hP hD hS q he rfl 0 (by decide) (by rw [hy]; exact C.2.2.2.2.2.1 _ wd_mc) (u_same (C.2.2.2.2.2.1 _ wd_mcS)) rfl (by decide +kernel) rfl rfl hj hd (fun H locs hP hD hS => k p e s m args below meth c H locs ls A C hl hP hD hS)

end JR
