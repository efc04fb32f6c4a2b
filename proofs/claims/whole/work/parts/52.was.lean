/-! ===== the desk: was, which may throw ===== -/
def XL : List Cond := (xs_at RX7 233 NSE 13 prog_27_method_4_code "java/lang/RuntimeException" ["java/lang/Exception"]).filter vx_no
/-- what a throw needs beside TB -/
def GX (E : VE) (s1 s2 : Nat) : Prop := E.1.stackTraces = false ∧ ∀ (A : Nat → Prop) (s : State), E.2.2.2 A s → (∀ w ∈ (XL).filter (fun w => !goodWord w), va_Nw w s) ∧ vk_R RX7 231 "no such train" s1 s ∧ vk_R RX7 236 "the part was not there" s2 s ∧ vx_Zq Bundle.tN "UNASSIGNED_STACK" Bundle.steD A s s.heap ∧ vx_Zq Bundle.tN "SUPPRESSED_SENTINEL" Bundle.listD A s s.heap
theorem xa_1 : Cond.classLink RX7 229 NSE ∈ TB := by decide +kernel
theorem xa_2 : Cond.initialized NSE ∈ TB := by decide +kernel
theorem xa_good0 : ((XL).filter goodWord).all (fun w => decide (w ∈ TB)) = true := by decide +kernel
theorem xa_good (w : Cond) (h : w ∈ (XL).filter goodWord) : w ∈ TB := of_decide_eq_true (List.all_eq_true.mp xa_good0 w h)
theorem xa_ot0 : (Cond.classLink RX7 229 NSE :: Cond.initialized NSE :: XL).all vx_ot = true := by decide +kernel
theorem xa_ot (w : Cond) (h : w ∈ Cond.classLink RX7 229 NSE :: Cond.initialized NSE :: XL) : vx_ot w = true := List.all_eq_true.mp xa_ot0 w h
theorem xa_on (w : Cond) (h : w ∈ (XL).filter (fun w => !goodWord w)) : w.onTables = true := by
  obtain ⟨h1, h2⟩ := List.mem_filter.mp h
  have h3 := xa_ot w (List.mem_cons_of_mem _ (List.mem_cons_of_mem _ h1))
  simp only [vx_ot, Bool.or_eq_true] at h3
  rcases h3 with h3 | h3
  · exact h3
  · rw [h3] at h2
    exact absurd h2 (by decide)
section VXT
variable {E : VE} {y : MethodName} {bt : ByteArray} {nL : Nat} {rt : Option FieldType} {fr mc ms : Nat} {post : Option Value → va_W → Prop} {px : va_W → Prop} {pc : Nat} {L : List (Option Value)} {st : List Value} {ws : va_W} {cl sl s1 s2 : Nat}
theorem VX_throw {is ta : Nat} {tx : String} (hX : GX E s1 s2) (hy : y.cls = RX7) (hstr : ∀ (A : Nat → Prop) (s : State), E.2.2.2 A s → vk_R RX7 is tx ta s) (d0 : decode bt pc = .ok (.new 229, 3)) (d3 : decode bt (pc + 3) = .ok (.dup, 1)) (d4 : decode bt (pc + 4) = .ok (.ldc is, 2)) (d6 : decode bt (pc + 6) = .ok (.invokespecial 233, 3)) (d9 : decode bt (pc + 9) = .ok (.athrow, 1)) (hfr : 6 ≤ fr) (hW : (st.map fun v => v.category).sum ≤ 8) (hcl : cl + 1 ≤ mc) (hsl : sl + 6 ≤ ms) (hp : px ws) : VX E y bt nL rt fr mc ms post px pc L st ws cl sl := by
  intro p e s m args below meth c H locs ls A C hx hl hP hD hS
  have hG := C.2.2.2.2.2.2.2.2.2.2.2
  have G := hX.2 A s hG
  refine xs_make (A := A) (own := RX7) (cls := NSE) (text := tx) (names := ["java/lang/Exception"]) (Y9 := "java/lang/RuntimeException") (rx := prog_27_method_4_code) (ix := 13) (ik := 229) (is := is) (ic := 233) (sa := ta) C.1 C.2.1 hX.1 (by decide +kernel) (by decide +kernel) (by decide +kernel) (by decide +kernel) (by decide +kernel) (hy ▸ C.2.2.2.2.1) (by decide +kernel) (by decide +kernel) (C.2.2.2.2.2.1 _ xa_1) (C.2.2.2.2.2.1 _ xa_2) (hstr A s hG) (vx_hat (L := XL) (fun w hw => C.2.2.2.2.2.1 _ (xa_good w hw)) (fun w hw => hw) (fun w hw => va_Nw.use (xa_on w hw) (G.1 w hw))) xa_ot G.2.2.2.1 G.2.2.2.2 hS (hl.1.1.trans C.2.2.2.1.symm) d0 d3 d4 d6 ?_ ?_ hcl hsl ?_
  · show 1 + 1 + 3 < fr
    omega
  · show _ + (13 * (1 + 1 + 1) + 43) ≤ 40 * fr
    omega
  · intro q H1 ce c1 c2 c3 c4 c5
    refine vx_athrow C.1 C.2.1 d9 (vx_out (fun x h => (hx x h).elim) C.2.2.2.2.2.2.1 c1 c2 c3 (fun t ht ha => ?_) (fun z hz => hS.2.2 z hz) hcl hsl)
    refine ⟨rfl, ws, hp, ?_, hD, ?_, fun q hq hA => ?_⟩
    · rw [ht]
      exact hP.kept (fun k q hk => c5 _ (hP k q hk).lt)
    · rw [ht]
      exact Nat.le_trans hS.1 c4
    · rw [ht, c5 q (Nat.lt_of_lt_of_le hq hS.1)]
      exact hS.2.1 q hq hA
end VXT
/-- a contract of a method that may throw -/
def CtX (E : VE) (y : MethodName) (bt : ByteArray) (nL : Nat) (rt : Option FieldType) (fr mc ms : Nat) (av : List Value) (ws : va_W) (post : Option Value → va_W → Prop) (px : va_W → Prop) : Prop :=
  GOK E.2.2.2 → ∀ sz : Nat, vx_Met E.1 y (Cond.code y bt nL rt :: TB) (RM fr mc ms) (va_Pc av (fun U => U.heap.size = sz ∧ va_P E.2.1 CL ws U.heap ∧ va_K E.2.1 CL (TY E) U ∧ va_D (fun _ => True) ws ∧ E.2.2.2 (va_A ws sz) U)) (Q0 E (va_A ws sz) post) (XQ E (va_A ws sz) px) mc ms (va_A ws sz)
theorem CtX_of {E : VE} {y : MethodName} {bt : ByteArray} {nL : Nat} {rt : Option FieldType} {fr mc ms n : Nat} {av : List Value} {ws : va_W} {post : Option Value → va_W → Prop} {px : va_W → Prop} (hM : MW y bt nL rt n) (hav0 : av.all (fun v => decide (v.category = 1)) = true) (hnl : av.length ≤ nL)
    (k : VX E y bt nL rt fr mc ms post px 0 (av.map some ++ List.replicate (nL - av.length) none) [] ws 0 0) : CtX E y bt nL rt fr mc ms av ws post px := by
  have hav : ∀ v ∈ av, v.category = 1 := fun v hv => of_decide_eq_true (List.all_eq_true.mp hav0 v hv)
  intro hG sz
  refine vx_ofW (cc := bt) (maxL := nL) (ret := rt) hM.2.2.2 rfl ?_
  intro p e s m args below meth c s₁ B hml hx hv
  obtain ⟨rfl, hsz, hP, hK, hD0, hG0⟩ := hv
  subst hsz
  rw [lg_entry_eq]
  have hl := lv_entry av (n := nL) (by rw [sl_len av hav]; exact hnl)
  have hts := atoms_spec (ws := Cond.code y bt nL rt :: TB) B.pre
  refine k p e s m _ below meth c s.heap [] _ _ ⟨B.exec, B.bytes, B.returns, hml, findClass_of_methodNamed B.named, fun w hw => hts w (List.mem_cons_of_mem _ hw), B.notSynchronized, (name_of_methodNamed B.named B.method).1, hK, fun q h => Or.inr h, hG, hG0⟩ hx ?_ hP (hD0.self (sz := s.heap.size)) va_S.rf
  have key : ∀ (i : Nat) (v : Value), (av.map some ++ List.replicate (nL - av.length) none)[i]? = some (some v) → av[i]? = some v := by
    intro i v h
    by_cases hi : i < av.length
    · rw [List.getElem?_append_left (by simpa using hi), List.getElem?_map] at h
      cases ha : av[i]? with
      | none => rw [ha] at h; cases h
      | some w => rw [ha] at h; cases h; rfl
    · rw [List.getElem?_append_right (by simpa using Nat.not_lt.mp hi)] at h
      have := List.eq_of_mem_replicate (List.mem_of_getElem? h)
      cases this
  refine ⟨⟨hl.1, hl.2.1, fun q hq => ?_⟩, fun i v h => hav v (List.mem_of_getElem? (key i v h))⟩
  have h1 := lvOf_args av hav 0 q.1 q.2 (key _ _ (mem_lvOf.mp hq))
  rw [Nat.zero_add] at h1
  exact hl.2.2 q h1
def wasOK (g : Nat → Nat → Int32) (T : Nat → TR) (t p : Int32) : Bool := isTr g t && (!decide (p < 0) && decide (p < nI (T t.toNatClampNeg).1))
def wasV (T : Nat → TR) (t p bh : Int32) : Int32 := if bh = 0 then (T t.toNatClampNeg).2.1 p.toNatClampNeg else (T t.toNatClampNeg).2.2.1 p.toNatClampNeg
section WAS
variable {E : VE} {ad : Nat → Nat} {el : Nat} {g : Nat → Nat → Int32} {w0 ws : va_W} {tE mi s1 s2 : Nat}
set_option maxHeartbeats 4000000 in
set_option maxRecDepth 20000 in
theorem ct_X7_was (hX : GX E s1 s2) (hE : GH E tE mi) (hw : WF E ad el g w0 ws) {n : Nat} {T : Nat → TR} {tb xa xo xb : Nat → Nat} {qe cap : Nat} {fe : Nat → Option Nat} (hd : DY0 E el tE n T ws tb xa xo xb qe cap fe) (hn : g 24 2 = nI n) (hn60 : n ≤ 60) (hTk : TOK n T) (tt pp bh : Int32) : CtX E yX7_was cX7_was 6 (some (.int)) 6 1 6 [.ref (ad 0), .int tt, .int pp, .int bh] ws (fun r w => wasOK g T tt pp = true ∧ r = some (.int (wasV T tt pp bh)) ∧ w = ws) (fun w => wasOK g T tt pp = false ∧ w = ws) := by
  refine CtX_of mw_X7_was rfl (Nat.le_of_ble_eq_true rfl) ?_
  have hE1 := hE.1
  refine VX_aload_n dX7_was_0 rfl ?_
  refine VX_iload_n dX7_was_1 rfl ?_
  refine VX_rdV (0) mw_X7_isTrain mv_X7_226 dX7_was_2 (ct_X7_isTrain hw tt) hw.p0 rfl rfl rfl (Nat.le_of_ble_eq_true rfl) (by first | decide | omega) (by decide) (by decide) (by decide) ?_
  refine VX_if_ne 18 dX7_was_5 (by decide) (fun h5 => ?_) (fun h5 => ?_)
  · skip
    obtain ⟨t, ht, rfl⟩ := isTr_in hn hn60 (bI_1 h5)
    have hcl : (nI t).toNatClampNeg = t := nI_clamp (by omega)
    have hl10 := (hTk t ht).1
    refine VX_aload_n dX7_was_18 rfl ?_
    refine VX_get (0) fl_X7_61 dX7_was_19 hw.p0 rfl ?_
    refine VX_iload_n dX7_was_22 rfl ?_
    refine VX_callV (24) mw_Jx4a65c_get_915e3 mv_X7_189 dX7_was_23 (ct_getT hE hw hd hn hn60 ht) hw.p24 rfl rfl rfl (Nat.le_of_ble_eq_true rfl) (by first | decide | omega) (by decide) (by decide) (by decide) (fun r23 ws1 hp23 => ?_)
    obtain ⟨rfl, hq1⟩ := hp23
    rw [hq1]
    have hw1 := hw
    refine VX_castT (tb t + 1) wd_cl_X7_169 dX7_was_26 (hd.1 t ht).2.2.1 ?_
    refine VX_astore dX7_was_29 (by decide) ?_
    refine VX_iload_n dX7_was_31 rfl ?_
    refine VX_if_eq 43 dX7_was_32 (by decide) (fun h32 => ?_) (fun h32 => ?_)
    · skip
      refine VX_aload dX7_was_43 rfl ?_
      refine VX_getN (tb t + 1) hE1 fn_X7_199 dX7_was_45 (hd.1 t ht).2.2.1 rfl ?_
      refine VX_astore dX7_was_48 (by decide) ?_
      refine VX_iload_n dX7_was_50 rfl ?_
      refine VX_if_lt 61 dX7_was_51 (by decide) (fun h51 => ?_) (fun h51 => ?_)
      · skip
        exact VX_throw (is := 236) hX rfl (fun A s h => (hX.2 A s h).2.2.1) dX7_was_61 dX7_was_64 dX7_was_65 dX7_was_67 dX7_was_70 (by decide) (by decide) (by decide) (by decide) ⟨by rw [wasOK, bI_1 h5, hcl]; simp [h51], rfl⟩
      · skip
        refine VX_iload_n dX7_was_54 rfl ?_
        refine VX_aload dX7_was_55 rfl ?_
        refine VX_alenI (tb t) dX7_was_57 (hd.1 t ht).2.1 rfl ?_
        refine VX_icmp_lt 71 dX7_was_58 (by decide) (fun h58 => ?_) (fun h58 => ?_)
        · skip
          obtain ⟨jj, hjj, rfl⟩ : ∃ j, j < (T t).1 ∧ pp = nI j := by
            rcases pk_ix pp (n := (T t).1) (by omega) with q | q | q
            · exact absurd q h51
            · rw [Int32.lt_iff_toInt_lt] at h58
              rw [Int32.le_iff_toInt_le] at q
              have h58 : pp.toInt < (nI (T t).1).toInt := h58
              exact absurd h58 (by omega)
            · exact q
          have hcj : (nI jj).toNatClampNeg = jj := nI_clamp (by omega)
          refine VX_of ?_
          refine V_aload dX7_was_71 rfl ?_
          refine V_iload_n dX7_was_73 rfl ?_
          refine V_ialdN (tb t) dX7_was_74 (hd.1 t ht).2.1 hjj (by first | decide | omega) ?_
          refine V_iret dX7_was_75 rfl (by decide) (by decide) ?_
          exact ⟨by rw [wasOK, bI_1 h5, hcl]; simp [h51, show nI jj < nI (T t).1 from h58], by rw [wasV, if_pos h32, hcl, hcj], rfl⟩
        · skip
          exact VX_throw (is := 236) hX rfl (fun A s h => (hX.2 A s h).2.2.1) dX7_was_61 dX7_was_64 dX7_was_65 dX7_was_67 dX7_was_70 (by decide) (by decide) (by decide) (by decide) ⟨by rw [wasOK, bI_1 h5, hcl]; simp [h51, show ¬ pp < nI (T t).1 from h58], rfl⟩
    · skip
      refine VX_aload dX7_was_35 rfl ?_
      refine VX_getN (tb t + 1) hE1 fn_X7_206 dX7_was_37 (hd.1 t ht).2.2.1 rfl ?_
      refine VX_goto 48 dX7_was_40 (by decide) ?_
      refine VX_astore dX7_was_48 (by decide) ?_
      refine VX_iload_n dX7_was_50 rfl ?_
      refine VX_if_lt 61 dX7_was_51 (by decide) (fun h51 => ?_) (fun h51 => ?_)
      · skip
        exact VX_throw (is := 236) hX rfl (fun A s h => (hX.2 A s h).2.2.1) dX7_was_61 dX7_was_64 dX7_was_65 dX7_was_67 dX7_was_70 (by decide) (by decide) (by decide) (by decide) ⟨by rw [wasOK, bI_1 h5, hcl]; simp [h51], rfl⟩
      · skip
        refine VX_iload_n dX7_was_54 rfl ?_
        refine VX_aload dX7_was_55 rfl ?_
        refine VX_alenI (tb t + 2) dX7_was_57 (hd.1 t ht).2.2.2 rfl ?_
        refine VX_icmp_lt 71 dX7_was_58 (by decide) (fun h58 => ?_) (fun h58 => ?_)
        · skip
          obtain ⟨jj, hjj, rfl⟩ : ∃ j, j < (T t).1 ∧ pp = nI j := by
            rcases pk_ix pp (n := (T t).1) (by omega) with q | q | q
            · exact absurd q h51
            · rw [Int32.lt_iff_toInt_lt] at h58
              rw [Int32.le_iff_toInt_le] at q
              have h58 : pp.toInt < (nI (T t).1).toInt := h58
              exact absurd h58 (by omega)
            · exact q
          have hcj : (nI jj).toNatClampNeg = jj := nI_clamp (by omega)
          refine VX_of ?_
          refine V_aload dX7_was_71 rfl ?_
          refine V_iload_n dX7_was_73 rfl ?_
          refine V_ialdN (tb t + 2) dX7_was_74 (hd.1 t ht).2.2.2 hjj (by first | decide | omega) ?_
          refine V_iret dX7_was_75 rfl (by decide) (by decide) ?_
          exact ⟨by rw [wasOK, bI_1 h5, hcl]; simp [h51, show nI jj < nI (T t).1 from h58], by rw [wasV, if_neg h32, hcl, hcj], rfl⟩
        · skip
          exact VX_throw (is := 236) hX rfl (fun A s h => (hX.2 A s h).2.2.1) dX7_was_61 dX7_was_64 dX7_was_65 dX7_was_67 dX7_was_70 (by decide) (by decide) (by decide) (by decide) ⟨by rw [wasOK, bI_1 h5, hcl]; simp [h51, show ¬ pp < nI (T t).1 from h58], rfl⟩
  · skip
    exact VX_throw (is := 231) hX rfl (fun A s h => (hX.2 A s h).2.1) dX7_was_8 dX7_was_11 dX7_was_12 dX7_was_14 dX7_was_17 (by decide) (by decide) (by decide) (by decide) ⟨by rw [wasOK, bI_0 h5]; rfl, rfl⟩
end WAS
