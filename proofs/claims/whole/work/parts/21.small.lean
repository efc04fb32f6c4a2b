/-! ===== Tests (16, 17), OneWays (21 .. 23) ===== -/
theorem fi_step {P : Nat → Bool} {n i : Nat} (h : i < n) : fi P (n - i) i = if P i = true then nI i else fi P (n - (i + 1)) (i + 1) := by rw [show n - i = (n - (i + 1)) + 1 by omega, fi]
theorem fi_end {P : Nat → Bool} {n i : Nat} (h : n ≤ i) : fi P (n - i) i = -1 := by rw [Nat.sub_eq_zero_of_le h]; rfl
/-- the test that is red with a set -/
def pRed (f : Nat → Int32) (set : Int32) (i : Nat) : Bool := decide (f i &&& (set ^^^ -1) = 0)
def pWay (f h : Nat → Int32) (p v : Int32) (i : Nat) : Bool := decide (f i = p) && decide (h i = v)
def addTest (g : Nat → Nat → Int32) (set : Int32) : Nat → Nat → Int32 := va_up (va_up g 17 (upd (g 17) (g 16 1).toNatClampNeg set)) 16 (upd (g 16) 1 (g 16 1 + 1))
def addWay (g : Nat → Nat → Int32) (p v : Int32) : Nat → Nat → Int32 := va_up (va_up (va_up g 22 (upd (g 22) (g 21 2).toNatClampNeg p)) 23 (upd (g 23) (g 21 2).toNatClampNeg v)) 21 (upd (g 21) 2 (g 21 2 + 1))
def delWay (g : Nat → Nat → Int32) (i : Nat) : Nat → Nat → Int32 := va_up (va_up (va_up g 21 (upd (g 21) 2 (g 21 2 - 1))) 22 (upd (g 22) i (g 22 (g 21 2 - 1).toNatClampNeg))) 23 (upd (g 23) i (g 23 (g 21 2 - 1).toNatClampNeg))
section SML
variable {E : VE} {ad : Nat → Nat} {el : Nat} {g : Nat → Nat → Int32} {w0 ws : va_W}
set_option maxHeartbeats 4000000 in
set_option maxRecDepth 20000 in
theorem ct_X5_add (hw : Wd E ad el g ws) (hin : g 16 1 < 12 → vp_in (g 16 1) 12) (set : Int32) : Ct E yX5_add cX5_add 2 (some (.int)) 0 0 0 [.ref (ad 16), .int set] ws (fun r w => r = some (.int (if g 16 1 < 12 then g 16 1 + 1 - 1 else -1)) ∧ WF E ad el (if g 16 1 < 12 then addTest g set else g) ws w) := by
  refine Ct_of mw_X5_add rfl (Nat.le_of_ble_eq_true rfl) ?_
  have hw := WF.rf hw
  refine V_aload_n dX5_add_0 rfl ?_
  refine V_get (16) fl_X5_15 dX5_add_1 hw.p16 rfl ?_
  refine V_bipush (v := 12) dX5_add_4 (by decide) ?_
  refine V_icmp_lt 11 dX5_add_6 (by decide) (fun h6 => ?_) (fun h6 => ?_)
  · skip
    refine V_aload_n dX5_add_11 rfl ?_
    refine V_get (16) fl_X5_9 dX5_add_12 hw.p16 rfl ?_
    refine V_aload_n dX5_add_15 rfl ?_
    refine V_get (16) fl_X5_15 dX5_add_16 hw.p16 rfl ?_
    refine V_iload_n dX5_add_19 rfl ?_
    refine W_iast (17) hw (by decide) (fun _ => rfl) dX5_add_20 (hin h6) (fun ws1 hw1 => ?_)
    refine V_aload_n dX5_add_21 rfl ?_
    refine V_dup dX5_add_22 rfl ?_
    refine V_get (16) fl_X5_15 dX5_add_23 hw1.p16 rfl ?_
    refine V_iconst (v := 1) dX5_add_26 (by decide) ?_
    refine V_iadd dX5_add_27 ?_
    refine W_put (16) hw1 (by decide) fp_X5_15 dX5_add_28 rfl rfl rfl rfl (Nat.le_of_ble_eq_true rfl) (fun ws2 hw2 => ?_)
    refine V_aload_n dX5_add_31 rfl ?_
    refine V_get (16) fl_X5_15 dX5_add_32 hw2.p16 rfl ?_
    refine V_iconst (v := 1) dX5_add_35 (by decide) ?_
    refine V_isub dX5_add_36 ?_
    refine V_iret dX5_add_37 rfl (by decide) (by decide) ?_
    exact ⟨by rw [if_pos h6]; rfl, by rw [if_pos h6]; exact hw2⟩
  · skip
    refine V_iconst (v := -1) dX5_add_9 (by decide) ?_
    refine V_iret dX5_add_10 rfl (by decide) (by decide) ?_
    exact ⟨by rw [if_neg h6], by rw [if_neg h6]; exact hw⟩
set_option maxHeartbeats 4000000 in
set_option maxRecDepth 20000 in
theorem lp_X5_firstRed (hw : WF E ad el g w0 ws) (set : Int32) {n : Nat} (hn : g 16 1 = nI n) (hN : n ≤ 12) : ∀ (k i : Nat) (x : Int32), i ≤ n → n < i + k → x = nI i → fi (pRed (g 17) set) n 0 = fi (pRed (g 17) set) (n - i) i → V E yX5_firstRed cX5_firstRed 3 (some (.int)) 0 0 0 (fun r w => r = some (.int (fi (pRed (g 17) set) n 0)) ∧ w = ws) 2 [some (.ref (ad 16)), some (.int set), some (.int x)] [] ws 0 0 := by
  intro k
  induction k with
  | zero => intro i x h1 h2; exact absurd h2 (by omega)
  | succ k ih =>
    intro i x hil hin hx hinv
    subst hx
    refine V_iload_n dX5_firstRed_2 rfl ?_
    refine V_aload_n dX5_firstRed_3 rfl ?_
    refine V_get (16) fl_X5_15 dX5_firstRed_4 hw.p16 rfl ?_
    refine V_icmp_ge 31 dX5_firstRed_7 (by decide) (fun h7 => ?_) (fun h7 => ?_)
    · skip
      refine V_iconst (v := -1) dX5_firstRed_31 (by decide) ?_
      refine V_iret dX5_firstRed_32 rfl (by decide) (by decide) ?_
      have hi := leK (a := n) (b := i) (by omega) (by omega) (by rw [← hn]; exact h7)
      exact ⟨by rw [hinv, fi_end hi], rfl⟩
    · skip
      have hi := nleK (a := n) (b := i) (by omega) (by omega) (by rw [← hn]; exact h7)
      refine V_aload_n dX5_firstRed_10 rfl ?_
      refine V_get (16) fl_X5_9 dX5_firstRed_11 hw.p16 rfl ?_
      refine V_iload_n dX5_firstRed_14 rfl ?_
      refine V_iald (17) dX5_firstRed_15 hw.p17 (vp_in_nI (by omega) (by decide)) ?_
      rw [nI_clamp (n := i) (by omega)]
      refine V_iload_n dX5_firstRed_16 rfl ?_
      refine V_iconst (v := -1) dX5_firstRed_17 (by decide) ?_
      refine V_ixor dX5_firstRed_18 ?_
      refine V_iand dX5_firstRed_19 ?_
      refine V_if_ne 25 dX5_firstRed_20 (by decide) (fun h20 => ?_) (fun h20 => ?_)
      · skip
        refine V_iinc dX5_firstRed_25 rfl rfl (by decide) ?_
        refine V_goto 2 dX5_firstRed_28 (by decide) ?_
        exact ih (i + 1) _ (by omega) (by omega) (nI_1 i) (by rw [hinv, fi_step hi, if_neg (by rw [pRed, decide_eq_true_eq]; exact h20)])
      · skip
        refine V_iload_n dX5_firstRed_23 rfl ?_
        refine V_iret dX5_firstRed_24 rfl (by decide) (by decide) ?_
        exact ⟨by rw [hinv, fi_step hi, if_pos (by rw [pRed, decide_eq_true_eq]; exact h20)], rfl⟩
set_option maxHeartbeats 4000000 in
set_option maxRecDepth 20000 in
theorem ct_X5_firstRed (hw : WF E ad el g w0 ws) (set : Int32) {n : Nat} (hn : g 16 1 = nI n) (hN : n ≤ 12) : Ct E yX5_firstRed cX5_firstRed 3 (some (.int)) 0 0 0 [.ref (ad 16), .int set] ws (fun r w => r = some (.int (fi (pRed (g 17) set) n 0)) ∧ w = ws) := by
  refine Ct_of mw_X5_firstRed rfl (Nat.le_of_ble_eq_true rfl) ?_
  refine V_iconst (v := 0) dX5_firstRed_0 (by decide) ?_
  refine V_istore_n dX5_firstRed_1 (by decide) ?_
  exact lp_X5_firstRed hw set hn hN (n + 1) 0 _ (Nat.zero_le _) (by omega) rfl rfl
set_option maxHeartbeats 4000000 in
set_option maxRecDepth 20000 in
theorem lp_X3_find (hw : WF E ad el g w0 ws) (p v : Int32) {n : Nat} (hn : g 21 2 = nI n) (hN : n ≤ 60) : ∀ (k i : Nat) (x : Int32), i ≤ n → n < i + k → x = nI i → fi (pWay (g 22) (g 23) p v) n 0 = fi (pWay (g 22) (g 23) p v) (n - i) i → V E yX3_find cX3_find 4 (some (.int)) 0 0 0 (fun r w => r = some (.int (fi (pWay (g 22) (g 23) p v) n 0)) ∧ w = ws) 2 [some (.ref (ad 21)), some (.int p), some (.int v), some (.int x)] [] ws 0 0 := by
  intro k
  induction k with
  | zero => intro i x h1 h2; exact absurd h2 (by omega)
  | succ k ih =>
    intro i x hil hin hx hinv
    subst hx
    refine V_iload_n dX3_find_2 rfl ?_
    refine V_aload_n dX3_find_3 rfl ?_
    refine V_get (21) fl_X3_18 dX3_find_4 hw.p21 rfl ?_
    refine V_icmp_ge 38 dX3_find_7 (by decide) (fun h7 => ?_) (fun h7 => ?_)
    · skip
      refine V_iconst (v := -1) dX3_find_38 (by decide) ?_
      refine V_iret dX3_find_39 rfl (by decide) (by decide) ?_
      have hi := leK (a := n) (b := i) (by omega) (by omega) (by rw [← hn]; exact h7)
      exact ⟨by rw [hinv, fi_end hi], rfl⟩
    · skip
      have hi := nleK (a := n) (b := i) (by omega) (by omega) (by rw [← hn]; exact h7)
      refine V_aload_n dX3_find_10 rfl ?_
      refine V_get (21) fl_X3_9 dX3_find_11 hw.p21 rfl ?_
      refine V_iload_n dX3_find_14 rfl ?_
      refine V_iald (22) dX3_find_15 hw.p22 (vp_in_nI (by omega) (by decide)) ?_
      rw [nI_clamp (n := i) (by omega)]
      refine V_iload_n dX3_find_16 rfl ?_
      refine V_icmp_ne 32 dX3_find_17 (by decide) (fun h17 => ?_) (fun h17 => ?_)
      · skip
        refine V_iinc dX3_find_32 rfl rfl (by decide) ?_
        refine V_goto 2 dX3_find_35 (by decide) ?_
        exact ih (i + 1) _ (by omega) (by omega) (nI_1 i) (by rw [hinv, fi_step hi, if_neg (by simp [pWay, h17])])
      · skip
        refine V_aload_n dX3_find_20 rfl ?_
        refine V_get (21) fl_X3_15 dX3_find_21 hw.p21 rfl ?_
        refine V_iload_n dX3_find_24 rfl ?_
        refine V_iald (23) dX3_find_25 hw.p23 (vp_in_nI (by omega) (by decide)) ?_
        rw [nI_clamp (n := i) (by omega)]
        refine V_iload_n dX3_find_26 rfl ?_
        refine V_icmp_ne 32 dX3_find_27 (by decide) (fun h27 => ?_) (fun h27 => ?_)
        · skip
          refine V_iinc dX3_find_32 rfl rfl (by decide) ?_
          refine V_goto 2 dX3_find_35 (by decide) ?_
          exact ih (i + 1) _ (by omega) (by omega) (nI_1 i) (by rw [hinv, fi_step hi, if_neg (by simp [pWay, h27])])
        · skip
          refine V_iload_n dX3_find_30 rfl ?_
          refine V_iret dX3_find_31 rfl (by decide) (by decide) ?_
          exact ⟨by rw [hinv, fi_step hi, if_pos (by simp [pWay, h17, h27])], rfl⟩
set_option maxHeartbeats 4000000 in
set_option maxRecDepth 20000 in
theorem ct_X3_find (hw : WF E ad el g w0 ws) (p v : Int32) {n : Nat} (hn : g 21 2 = nI n) (hN : n ≤ 60) : Ct E yX3_find cX3_find 4 (some (.int)) 0 0 0 [.ref (ad 21), .int p, .int v] ws (fun r w => r = some (.int (fi (pWay (g 22) (g 23) p v) n 0)) ∧ w = ws) := by
  refine Ct_of mw_X3_find rfl (Nat.le_of_ble_eq_true rfl) ?_
  refine V_iconst (v := 0) dX3_find_0 (by decide) ?_
  refine V_istore_n dX3_find_1 (by decide) ?_
  exact lp_X3_find hw p v hn hN (n + 1) 0 _ (Nat.zero_le _) (by omega) rfl rfl
set_option maxHeartbeats 4000000 in
set_option maxRecDepth 20000 in
theorem ct_X3_add (hw : Wd E ad el g ws) (p v : Int32) {n : Nat} (hn : g 21 2 = nI n) (hN : n ≤ 60) : Ct E yX3_add cX3_add 3 (some (.boolean)) 1 0 0 [.ref (ad 21), .int p, .int v] ws (fun r w => r = some (.int (if 60 ≤ g 21 2 then 0 else if fi (pWay (g 22) (g 23) p v) n 0 = -1 then 1 else 0)) ∧ WF E ad el (if 60 ≤ g 21 2 then g else if fi (pWay (g 22) (g 23) p v) n 0 = -1 then addWay g p v else g) ws w) := by
  refine Ct_of mw_X3_add rfl (Nat.le_of_ble_eq_true rfl) ?_
  have hw := WF.rf hw
  refine V_aload_n dX3_add_0 rfl ?_
  refine V_get (21) fl_X3_18 dX3_add_1 hw.p21 rfl ?_
  refine V_bipush (v := 60) dX3_add_4 (by decide) ?_
  refine V_icmp_ge 19 dX3_add_6 (by decide) (fun h6 => ?_) (fun h6 => ?_)
  · skip
    refine V_iconst (v := 0) dX3_add_19 (by decide) ?_
    refine V_zret dX3_add_20 rfl (by first | exact Or.inl rfl | exact Or.inr rfl) (by decide) (by decide) ?_
    exact ⟨by rw [if_pos h6], by rw [if_pos h6]; exact hw⟩
  · skip
    have hin : vp_in (g 21 2) 60 := by rw [hn]; exact vp_in_nI (nleK (a := 60) (b := n) (by decide) (by omega) (by rw [← hn]; exact h6)) (by decide)
    refine V_aload_n dX3_add_9 rfl ?_
    refine V_iload_n dX3_add_10 rfl ?_
    refine V_iload_n dX3_add_11 rfl ?_
    refine V_rdV (21) mw_X3_find mv_X3_22 dX3_add_12 (ct_X3_find hw p v hn hN) hw.p21 rfl rfl rfl (Nat.le_of_ble_eq_true rfl) (by decide) (by decide) (by decide) (by decide) ?_
    refine V_iconst (v := -1) dX3_add_15 (by decide) ?_
    refine V_icmp_eq 21 dX3_add_16 (by decide) (fun h16 => ?_) (fun h16 => ?_)
    · skip
      refine V_aload_n dX3_add_21 rfl ?_
      refine V_get (21) fl_X3_9 dX3_add_22 hw.p21 rfl ?_
      refine V_aload_n dX3_add_25 rfl ?_
      refine V_get (21) fl_X3_18 dX3_add_26 hw.p21 rfl ?_
      refine V_iload_n dX3_add_29 rfl ?_
      refine W_iast (22) hw (by decide) (fun _ => rfl) dX3_add_30 hin (fun ws1 hw1 => ?_)
      refine V_aload_n dX3_add_31 rfl ?_
      refine V_get (21) fl_X3_15 dX3_add_32 hw1.p21 rfl ?_
      refine V_aload_n dX3_add_35 rfl ?_
      refine V_get (21) fl_X3_18 dX3_add_36 hw1.p21 rfl ?_
      refine V_iload_n dX3_add_39 rfl ?_
      refine W_iast (23) hw1 (by decide) (fun _ => rfl) dX3_add_40 hin (fun ws2 hw2 => ?_)
      refine V_aload_n dX3_add_41 rfl ?_
      refine V_dup dX3_add_42 rfl ?_
      refine V_get (21) fl_X3_18 dX3_add_43 hw2.p21 rfl ?_
      refine V_iconst (v := 1) dX3_add_46 (by decide) ?_
      refine V_iadd dX3_add_47 ?_
      refine W_put (21) hw2 (by decide) fp_X3_18 dX3_add_48 rfl rfl rfl rfl (Nat.le_of_ble_eq_true rfl) (fun ws3 hw3 => ?_)
      refine V_iconst (v := 1) dX3_add_51 (by decide) ?_
      refine V_zret dX3_add_52 rfl (by first | exact Or.inl rfl | exact Or.inr rfl) (by decide) (by decide) ?_
      exact ⟨by rw [if_neg h6, if_pos h16], by rw [if_neg h6, if_pos h16]; exact hw3⟩
    · skip
      refine V_iconst (v := 0) dX3_add_19 (by decide) ?_
      refine V_zret dX3_add_20 rfl (by first | exact Or.inl rfl | exact Or.inr rfl) (by decide) (by decide) ?_
      exact ⟨by rw [if_neg h6, if_neg h16], by rw [if_neg h6, if_neg h16]; exact hw⟩
set_option maxHeartbeats 4000000 in
set_option maxRecDepth 20000 in
theorem ct_X3_remove (hw : Wd E ad el g ws) (p v : Int32) {n : Nat} (hn : g 21 2 = nI n) (hN : n ≤ 60) : Ct E yX3_remove cX3_remove 4 (some (.boolean)) 1 0 0 [.ref (ad 21), .int p, .int v] ws (fun r w => r = some (.int (if fi (pWay (g 22) (g 23) p v) n 0 = -1 then 0 else 1)) ∧ WF E ad el (if fi (pWay (g 22) (g 23) p v) n 0 = -1 then g else delWay g (fi (pWay (g 22) (g 23) p v) n 0).toNatClampNeg) ws w) := by
  refine Ct_of mw_X3_remove rfl (Nat.le_of_ble_eq_true rfl) ?_
  have hw := WF.rf hw
  refine V_aload_n dX3_remove_0 rfl ?_
  refine V_iload_n dX3_remove_1 rfl ?_
  refine V_iload_n dX3_remove_2 rfl ?_
  refine V_rdV (21) mw_X3_find mv_X3_22 dX3_remove_3 (ct_X3_find hw p v hn hN) hw.p21 rfl rfl rfl (Nat.le_of_ble_eq_true rfl) (by decide) (by decide) (by decide) (by decide) ?_
  refine V_istore_n dX3_remove_6 (by decide) ?_
  refine V_iload_n dX3_remove_7 rfl ?_
  refine V_iconst (v := -1) dX3_remove_8 (by decide) ?_
  refine V_icmp_ne 14 dX3_remove_9 (by decide) (fun h9 => ?_) (fun h9 => ?_)
  · skip
    obtain ⟨j, -, hj, -, ej⟩ : ∃ j, 0 ≤ j ∧ j < 0 + n ∧ pWay (g 22) (g 23) p v j = true ∧ fi (pWay (g 22) (g 23) p v) n 0 = nI j := by
      rcases fi_some (P := pWay (g 22) (g 23) p v) n 0 with h | h
      · exact absurd h h9
      · exact h
    have hin1 : vp_in (fi (pWay (g 22) (g 23) p v) n 0) 60 := by rw [ej]; exact vp_in_nI (by omega) (by decide)
    have hin2 : vp_in (g 21 2 - 1) 60 := by rw [hn, show n = (n - 1) + 1 by omega, nI_pred]; exact vp_in_nI (by omega) (by decide)
    refine V_aload_n dX3_remove_14 rfl ?_
    refine V_dup dX3_remove_15 rfl ?_
    refine V_get (21) fl_X3_18 dX3_remove_16 hw.p21 rfl ?_
    refine V_iconst (v := 1) dX3_remove_19 (by decide) ?_
    refine V_isub dX3_remove_20 ?_
    refine W_put (21) hw (by decide) fp_X3_18 dX3_remove_21 rfl rfl rfl rfl (Nat.le_of_ble_eq_true rfl) (fun ws1 hw1 => ?_)
    refine V_aload_n dX3_remove_24 rfl ?_
    refine V_get (21) fl_X3_9 dX3_remove_25 hw1.p21 rfl ?_
    refine V_iload_n dX3_remove_28 rfl ?_
    refine V_aload_n dX3_remove_29 rfl ?_
    refine V_get (21) fl_X3_9 dX3_remove_30 hw1.p21 rfl ?_
    refine V_aload_n dX3_remove_33 rfl ?_
    refine V_get (21) fl_X3_18 dX3_remove_34 hw1.p21 rfl ?_
    refine V_iald (22) dX3_remove_37 hw1.p22 hin2 ?_
    refine W_iast (22) hw1 (by decide) (fun _ => rfl) dX3_remove_38 hin1 (fun ws2 hw2 => ?_)
    refine V_aload_n dX3_remove_39 rfl ?_
    refine V_get (21) fl_X3_15 dX3_remove_40 hw2.p21 rfl ?_
    refine V_iload_n dX3_remove_43 rfl ?_
    refine V_aload_n dX3_remove_44 rfl ?_
    refine V_get (21) fl_X3_15 dX3_remove_45 hw2.p21 rfl ?_
    refine V_aload_n dX3_remove_48 rfl ?_
    refine V_get (21) fl_X3_18 dX3_remove_49 hw2.p21 rfl ?_
    refine V_iald (23) dX3_remove_52 hw2.p23 hin2 ?_
    refine W_iast (23) hw2 (by decide) (fun _ => rfl) dX3_remove_53 hin1 (fun ws3 hw3 => ?_)
    refine V_iconst (v := 1) dX3_remove_54 (by decide) ?_
    refine V_zret dX3_remove_55 rfl (by first | exact Or.inl rfl | exact Or.inr rfl) (by decide) (by decide) ?_
    exact ⟨by rw [if_neg h9], by rw [if_neg h9]; exact hw3⟩
  · skip
    refine V_iconst (v := 0) dX3_remove_12 (by decide) ?_
    refine V_zret dX3_remove_13 rfl (by first | exact Or.inl rfl | exact Or.inr rfl) (by decide) (by decide) ?_
    exact ⟨by rw [if_pos h9], by rw [if_pos h9]; exact hw⟩
end SML
