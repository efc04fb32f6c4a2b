/-! ===== Needs (8 .. 15) ===== -/
/-- need k holds with the other part at version v -/
def hold (g : Nat → Nat → Int32) (k : Nat) (v : Int32) : Bool := !decide (v < g 12 k) && !decide (g 13 k < v)
def wSet (g : Nat → Nat → Int32) (k : Nat) (a b : Int32) : Nat → Nat → Int32 := va_up (va_up g 14 (upd (g 14) k a)) 15 (upd (g 15) k b)
def wAsk (p o : Nat) (b6 b7 b8 b9 : Bool) : Nat := if (!b6 && !b7 || b8 && b9) = true then 0 else (if b6 = b7 then 0 else 2 ^ p) ||| (if b8 = b9 then 0 else 2 ^ o)
def wBrk (p o : Nat) (b6 b7 b8 b9 : Bool) : Nat := if (!b6 && !b7 || b8 && b9) = true then 1 else (if b6 = b7 then 0 else if b7 = true then 2 ^ p else 0) ||| (if b8 = b9 then 0 else if b8 = true then 2 ^ o else 0)
theorem wSet_14 (g : Nat → Nat → Int32) (k : Nat) (a b a2 : Int32) : va_up (wSet g k a b) 14 (upd ((wSet g k a b) 14) k a2) = wSet g k a2 b := by
  show va_up (va_up (va_up g 14 (upd (g 14) k a)) 15 (upd (g 15) k b)) 14 (upd (upd (g 14) k a) k a2) = _
  rw [upd_upd, va_up_sw _ (show (14 : Nat) ≠ 15 by decide), va_up_up, va_up_sw _ (show (15 : Nat) ≠ 14 by decide)]
  rfl
theorem wSet_15 (g : Nat → Nat → Int32) (k : Nat) (a b b2 : Int32) : va_up (wSet g k a b) 15 (upd ((wSet g k a b) 15) k b2) = wSet g k a b2 := by
  show va_up (va_up (va_up g 14 (upd (g 14) k a)) 15 (upd (g 15) k b)) 15 (upd (upd (g 15) k b) k b2) = _
  rw [upd_upd, va_up_up]
  rfl
theorem wSet_a (g : Nat → Nat → Int32) (k : Nat) (a b : Int32) : wSet g k a b 14 k = a := pk_us
theorem wSet_b (g : Nat → Nat → Int32) (k : Nat) (a b : Int32) : wSet g k a b 15 k = b := pk_us
def addNeed (g : Nat → Nat → Int32) (p v o lo hi : Int32) : Nat → Nat → Int32 := va_up (va_up (va_up (va_up (va_up (va_up g 9 (upd (g 9) (g 8 7).toNatClampNeg p)) 10 (upd (g 10) (g 8 7).toNatClampNeg v)) 11 (upd (g 11) (g 8 7).toNatClampNeg o)) 12 (upd (g 12) (g 8 7).toNatClampNeg lo)) 13 (upd (g 13) (g 8 7).toNatClampNeg hi)) 8 (upd (g 8) 7 (g 8 7 + 1))
def pBrk (fa fb : Nat → Int32) (set : Int32) (i : Nat) : Bool := decide (set &&& fa i = fb i)
section NDS
variable {E : VE} {ad : Nat → Nat} {el : Nat} {g : Nat → Nat → Int32} {w0 ws : va_W}
set_option maxHeartbeats 4000000 in
set_option maxRecDepth 20000 in
theorem ct_X1_holds (hw : WF E ad el g w0 ws) {k : Nat} (hk : k < 30) (v : Int32) : Ct E yX1_holds cX1_holds 3 (some (.boolean)) 0 0 0 [.ref (ad 8), .int (nI k), .int v] ws (fun r w => r = some (.int (bI (hold g k v))) ∧ w = ws) := by
  refine Ct_of mw_X1_holds rfl (Nat.le_of_ble_eq_true rfl) ?_
  refine V_iload_n dX1_holds_0 rfl ?_
  refine V_aload_n dX1_holds_1 rfl ?_
  refine V_get (8) fl_X1_21 dX1_holds_2 hw.p8 rfl ?_
  refine V_iload_n dX1_holds_5 rfl ?_
  refine V_ialdN (12) dX1_holds_6 hw.p12 hk (by decide) ?_
  refine V_icmp_lt 24 dX1_holds_7 (by decide) (fun h7 => ?_) (fun h7 => ?_)
  · skip
    refine V_iconst (v := 0) dX1_holds_24 (by decide) ?_
    refine V_zret dX1_holds_25 rfl (by first | exact Or.inl rfl | exact Or.inr rfl) (by decide) (by decide) ?_
    exact ⟨by simp [hold, bI, h7], rfl⟩
  · skip
    refine V_iload_n dX1_holds_10 rfl ?_
    refine V_aload_n dX1_holds_11 rfl ?_
    refine V_get (8) fl_X1_24 dX1_holds_12 hw.p8 rfl ?_
    refine V_iload_n dX1_holds_15 rfl ?_
    refine V_ialdN (13) dX1_holds_16 hw.p13 hk (by decide) ?_
    refine V_icmp_gt 24 dX1_holds_17 (by decide) (fun h17 => ?_) (fun h17 => ?_)
    · skip
      refine V_iconst (v := 0) dX1_holds_24 (by decide) ?_
      refine V_zret dX1_holds_25 rfl (by first | exact Or.inl rfl | exact Or.inr rfl) (by decide) (by decide) ?_
      exact ⟨by simp [hold, bI, h7, h17], rfl⟩
    · skip
      refine V_iconst (v := 1) dX1_holds_20 (by decide) ?_
      refine V_goto 25 dX1_holds_21 (by decide) ?_
      refine V_zret dX1_holds_25 rfl (by first | exact Or.inl rfl | exact Or.inr rfl) (by decide) (by decide) ?_
      exact ⟨by simp [hold, bI, h7, h17], rfl⟩
set_option maxHeartbeats 4000000 in
set_option maxRecDepth 20000 in
theorem ct_X1_neverBreaks (hw : Wd E ad el g ws) {k : Nat} (hk : k < 30) : Ct E yX1_neverBreaks cX1_neverBreaks 2 none 0 0 0 [.ref (ad 8), .int (nI k)] ws (fun r w => r = none ∧ WF E ad el (wSet g k 0 1) ws w) := by
  refine Ct_of mw_X1_neverBreaks rfl (Nat.le_of_ble_eq_true rfl) ?_
  have hw := WF.rf hw
  refine V_aload_n dX1_neverBreaks_0 rfl ?_
  refine V_get (8) fl_X1_27 dX1_neverBreaks_1 hw.p8 rfl ?_
  refine V_iload_n dX1_neverBreaks_4 rfl ?_
  refine V_iconst (v := 0) dX1_neverBreaks_5 (by decide) ?_
  refine W_iastN (14) hw (by decide) (fun _ => rfl) dX1_neverBreaks_6 hk (by decide) (fun ws1 hw1 => ?_)
  refine V_aload_n dX1_neverBreaks_7 rfl ?_
  refine V_get (8) fl_X1_30 dX1_neverBreaks_8 hw1.p8 rfl ?_
  refine V_iload_n dX1_neverBreaks_11 rfl ?_
  refine V_iconst (v := 1) dX1_neverBreaks_12 (by decide) ?_
  refine W_iastN (15) hw1 (by decide) (fun _ => rfl) dX1_neverBreaks_13 hk (by decide) (fun ws2 hw2 => ?_)
  refine V_vret dX1_neverBreaks_14 rfl (by decide) (by decide) ?_
  exact ⟨rfl, hw2⟩
set_option maxHeartbeats 4000000 in
set_option maxRecDepth 20000 in
theorem ct_X1_add (hw : Wd E ad el g ws) (hin : g 8 7 < 30 → vp_in (g 8 7) 30) (p v o lo hi : Int32) : Ct E yX1_add cX1_add 6 (some (.int)) 0 0 0 [.ref (ad 8), .int p, .int v, .int o, .int lo, .int hi] ws (fun r w => r = some (.int (if g 8 7 < 30 then g 8 7 + 1 - 1 else -1)) ∧ WF E ad el (if g 8 7 < 30 then addNeed g p v o lo hi else g) ws w) := by
  refine Ct_of mw_X1_add rfl (Nat.le_of_ble_eq_true rfl) ?_
  have hw := WF.rf hw
  refine V_aload_n dX1_add_0 rfl ?_
  refine V_get (8) fl_X1_33 dX1_add_1 hw.p8 rfl ?_
  refine V_bipush (v := 30) dX1_add_4 (by decide) ?_
  refine V_icmp_lt 11 dX1_add_6 (by decide) (fun h6 => ?_) (fun h6 => ?_)
  · skip
    refine V_aload_n dX1_add_11 rfl ?_
    refine V_get (8) fl_X1_9 dX1_add_12 hw.p8 rfl ?_
    refine V_aload_n dX1_add_15 rfl ?_
    refine V_get (8) fl_X1_33 dX1_add_16 hw.p8 rfl ?_
    refine V_iload_n dX1_add_19 rfl ?_
    refine W_iast (9) hw (by decide) (fun _ => rfl) dX1_add_20 (hin h6) (fun ws1 hw1 => ?_)
    refine V_aload_n dX1_add_21 rfl ?_
    refine V_get (8) fl_X1_15 dX1_add_22 hw1.p8 rfl ?_
    refine V_aload_n dX1_add_25 rfl ?_
    refine V_get (8) fl_X1_33 dX1_add_26 hw1.p8 rfl ?_
    refine V_iload_n dX1_add_29 rfl ?_
    refine W_iast (10) hw1 (by decide) (fun _ => rfl) dX1_add_30 (hin h6) (fun ws2 hw2 => ?_)
    refine V_aload_n dX1_add_31 rfl ?_
    refine V_get (8) fl_X1_18 dX1_add_32 hw2.p8 rfl ?_
    refine V_aload_n dX1_add_35 rfl ?_
    refine V_get (8) fl_X1_33 dX1_add_36 hw2.p8 rfl ?_
    refine V_iload_n dX1_add_39 rfl ?_
    refine W_iast (11) hw2 (by decide) (fun _ => rfl) dX1_add_40 (hin h6) (fun ws3 hw3 => ?_)
    refine V_aload_n dX1_add_41 rfl ?_
    refine V_get (8) fl_X1_21 dX1_add_42 hw3.p8 rfl ?_
    refine V_aload_n dX1_add_45 rfl ?_
    refine V_get (8) fl_X1_33 dX1_add_46 hw3.p8 rfl ?_
    refine V_iload dX1_add_49 rfl ?_
    refine W_iast (12) hw3 (by decide) (fun _ => rfl) dX1_add_51 (hin h6) (fun ws4 hw4 => ?_)
    refine V_aload_n dX1_add_52 rfl ?_
    refine V_get (8) fl_X1_24 dX1_add_53 hw4.p8 rfl ?_
    refine V_aload_n dX1_add_56 rfl ?_
    refine V_get (8) fl_X1_33 dX1_add_57 hw4.p8 rfl ?_
    refine V_iload dX1_add_60 rfl ?_
    refine W_iast (13) hw4 (by decide) (fun _ => rfl) dX1_add_62 (hin h6) (fun ws5 hw5 => ?_)
    refine V_aload_n dX1_add_63 rfl ?_
    refine V_dup dX1_add_64 rfl ?_
    refine V_get (8) fl_X1_33 dX1_add_65 hw5.p8 rfl ?_
    refine V_iconst (v := 1) dX1_add_68 (by decide) ?_
    refine V_iadd dX1_add_69 ?_
    refine W_put (8) hw5 (by decide) fp_X1_33 dX1_add_70 rfl rfl rfl rfl (Nat.le_of_ble_eq_true rfl) (fun ws6 hw6 => ?_)
    refine V_aload_n dX1_add_73 rfl ?_
    refine V_get (8) fl_X1_33 dX1_add_74 hw6.p8 rfl ?_
    refine V_iconst (v := 1) dX1_add_77 (by decide) ?_
    refine V_isub dX1_add_78 ?_
    refine V_iret dX1_add_79 rfl (by decide) (by decide) ?_
    exact ⟨by rw [if_pos h6]; rfl, by rw [if_pos h6]; exact hw6⟩
  · skip
    refine V_iconst (v := -1) dX1_add_9 (by decide) ?_
    refine V_iret dX1_add_10 rfl (by decide) (by decide) ?_
    exact ⟨by rw [if_neg h6], by rw [if_neg h6]; exact hw⟩
set_option maxHeartbeats 4000000 in
set_option maxRecDepth 20000 in
theorem lp_X1_firstBroken (hw : WF E ad el g w0 ws) (set : Int32) {n : Nat} (hn : g 8 7 = nI n) (hN : n ≤ 30) : ∀ (k i : Nat) (x : Int32), i ≤ n → n < i + k → x = nI i → fi (pBrk (g 14) (g 15) set) n 0 = fi (pBrk (g 14) (g 15) set) (n - i) i → V E yX1_firstBroken cX1_firstBroken 3 (some (.int)) 0 0 0 (fun r w => r = some (.int (fi (pBrk (g 14) (g 15) set) n 0)) ∧ w = ws) 2 [some (.ref (ad 8)), some (.int set), some (.int x)] [] ws 0 0 := by
  intro k
  induction k with
  | zero => intro i x h1 h2; exact absurd h2 (by omega)
  | succ k ih =>
    intro i x hil hin hx hinv
    subst hx
    refine V_iload_n dX1_firstBroken_2 rfl ?_
    refine V_aload_n dX1_firstBroken_3 rfl ?_
    refine V_get (8) fl_X1_33 dX1_firstBroken_4 hw.p8 rfl ?_
    refine V_icmp_ge 35 dX1_firstBroken_7 (by decide) (fun h7 => ?_) (fun h7 => ?_)
    · skip
      refine V_iconst (v := -1) dX1_firstBroken_35 (by decide) ?_
      refine V_iret dX1_firstBroken_36 rfl (by decide) (by decide) ?_
      have hi := leK (a := n) (b := i) (by omega) (by omega) (by rw [← hn]; exact h7)
      exact ⟨by rw [hinv, fi_end hi], rfl⟩
    · skip
      have hi := nleK (a := n) (b := i) (by omega) (by omega) (by rw [← hn]; exact h7)
      have hi30 : i < 30 := by omega
      refine V_iload_n dX1_firstBroken_10 rfl ?_
      refine V_aload_n dX1_firstBroken_11 rfl ?_
      refine V_get (8) fl_X1_27 dX1_firstBroken_12 hw.p8 rfl ?_
      refine V_iload_n dX1_firstBroken_15 rfl ?_
      refine V_ialdN (14) dX1_firstBroken_16 hw.p14 hi30 (by decide) ?_
      refine V_iand dX1_firstBroken_17 ?_
      refine V_aload_n dX1_firstBroken_18 rfl ?_
      refine V_get (8) fl_X1_30 dX1_firstBroken_19 hw.p8 rfl ?_
      refine V_iload_n dX1_firstBroken_22 rfl ?_
      refine V_ialdN (15) dX1_firstBroken_23 hw.p15 hi30 (by decide) ?_
      refine V_icmp_ne 29 dX1_firstBroken_24 (by decide) (fun h24 => ?_) (fun h24 => ?_)
      · skip
        refine V_iinc dX1_firstBroken_29 rfl rfl (by decide) ?_
        refine V_goto 2 dX1_firstBroken_32 (by decide) ?_
        exact ih (i + 1) _ (by omega) (by omega) (nI_1 i) (by rw [hinv, fi_step hi, if_neg (by rw [pBrk, decide_eq_true_eq]; exact h24)])
      · skip
        refine V_iload_n dX1_firstBroken_27 rfl ?_
        refine V_iret dX1_firstBroken_28 rfl (by decide) (by decide) ?_
        exact ⟨by rw [hinv, fi_step hi, if_pos (by rw [pBrk, decide_eq_true_eq]; exact h24)], rfl⟩
set_option maxHeartbeats 4000000 in
set_option maxRecDepth 20000 in
theorem ct_X1_firstBroken (hw : WF E ad el g w0 ws) (set : Int32) {n : Nat} (hn : g 8 7 = nI n) (hN : n ≤ 30) : Ct E yX1_firstBroken cX1_firstBroken 3 (some (.int)) 0 0 0 [.ref (ad 8), .int set] ws (fun r w => r = some (.int (fi (pBrk (g 14) (g 15) set) n 0)) ∧ w = ws) := by
  refine Ct_of mw_X1_firstBroken rfl (Nat.le_of_ble_eq_true rfl) ?_
  refine V_iconst (v := 0) dX1_firstBroken_0 (by decide) ?_
  refine V_istore_n dX1_firstBroken_1 (by decide) ?_
  exact lp_X1_firstBroken hw set hn hN (n + 1) 0 _ (Nat.zero_le _) (by omega) rfl rfl
set_option maxHeartbeats 4000000 in
set_option maxRecDepth 20000 in
theorem wo_D3 {k : Nat} (hk : k < 30) {p o : Nat} (hp : p < 10) (ho : o < 10) (b6 b7 b8 b9 : Bool) (a b : Nat) {G : Nat → Nat → Int32} (hw : WF E ad el (wSet g k (nI a) (nI b)) w0 ws) (hG : wSet g k (nI (a ||| (if b8 = b9 then 0 else 2 ^ o))) (nI (b ||| (if b8 = b9 then 0 else if b8 = true then 2 ^ o else 0))) = G) : V E yX1_weighOne cX1_weighOne 10 none 2 0 0 (fun r w => r = none ∧ WF E ad el G w0 w) 192 [some (.ref (ad 8)), some (.int (nI k)), some (.ref (ad 1)), some (.ref (ad 2)), some (.int (nI p)), some (.int (nI o)), some (.int (bI b6)), some (.int (bI b7)), some (.int (bI b8)), some (.int (bI b9))] [] ws 0 0 := by
  refine V_iload dX1_weighOne_192 rfl ?_
  refine V_iload dX1_weighOne_194 rfl ?_
  refine V_icmp_eq 234 dX1_weighOne_196 (by decide) (fun h196 => ?_) (fun h196 => ?_)
  · skip
    refine V_vret dX1_weighOne_234 rfl (by decide) (by decide) ?_
    have e := bI_inj h196
    exact ⟨rfl, hG ▸ (by rw [if_pos e, if_pos e, Nat.or_zero, Nat.or_zero]; exact hw)⟩
  · skip
    refine V_aload_n dX1_weighOne_199 rfl ?_
    refine V_get (8) fl_X1_27 dX1_weighOne_200 hw.p8 rfl ?_
    refine V_iload_n dX1_weighOne_203 rfl ?_
    refine V_dup2 dX1_weighOne_204 rfl rfl ?_
    refine V_ialdN (14) dX1_weighOne_205 hw.p14 hk (by decide) ?_
    rw [wSet_a]
    refine V_iconst (v := 1) dX1_weighOne_206 (by decide) ?_
    refine V_iload dX1_weighOne_207 rfl ?_
    refine V_ishl dX1_weighOne_209 ?_
    refine V_ior dX1_weighOne_210 ?_
    refine W_iastN (14) hw (by decide) (fun _ => rfl) dX1_weighOne_211 hk (by decide) (fun ws1 hw1 => ?_)
    rw [wSet_14] at hw1
    refine V_aload_n dX1_weighOne_212 rfl ?_
    refine V_get (8) fl_X1_30 dX1_weighOne_213 hw1.p8 rfl ?_
    refine V_iload_n dX1_weighOne_216 rfl ?_
    refine V_dup2 dX1_weighOne_217 rfl rfl ?_
    refine V_ialdN (15) dX1_weighOne_218 hw1.p15 hk (by decide) ?_
    rw [wSet_b]
    refine V_iload dX1_weighOne_219 rfl ?_
    refine V_if_eq 231 dX1_weighOne_221 (by decide) (fun h221 => ?_) (fun h221 => ?_)
    · skip
      refine V_iconst (v := 0) dX1_weighOne_231 (by decide) ?_
      refine V_ior dX1_weighOne_232 ?_
      refine W_iastN (15) hw1 (by decide) (fun _ => rfl) dX1_weighOne_233 hk (by decide) (fun ws2 hw2 => ?_)
      refine V_vret dX1_weighOne_234 rfl (by decide) (by decide) ?_
      have e := bI_ne h196
      have e2 := bI_0 h221
      rw [wSet_15, shl1 o (by omega), nx_or] at hw2
      rw [show nI b ||| (0 : Int32) = nI (b ||| 0) from nx_or b 0] at hw2
      exact ⟨rfl, hG ▸ (by rw [if_neg e, if_neg e, if_neg (by rw [e2]; decide)]; exact hw2)⟩
    · skip
      refine V_iconst (v := 1) dX1_weighOne_224 (by decide) ?_
      refine V_iload dX1_weighOne_225 rfl ?_
      refine V_ishl dX1_weighOne_227 ?_
      refine V_goto 232 dX1_weighOne_228 (by decide) ?_
      refine V_ior dX1_weighOne_232 ?_
      refine W_iastN (15) hw1 (by decide) (fun _ => rfl) dX1_weighOne_233 hk (by decide) (fun ws2 hw2 => ?_)
      refine V_vret dX1_weighOne_234 rfl (by decide) (by decide) ?_
      have e := bI_ne h196
      have e2 := bI_1 h221
      rw [wSet_15, shl1 o (by omega), nx_or, nx_or] at hw2
      exact ⟨rfl, hG ▸ (by rw [if_neg e, if_neg e, if_pos e2]; exact hw2)⟩
set_option maxHeartbeats 4000000 in
set_option maxRecDepth 20000 in
theorem wo_D2 {k : Nat} (hk : k < 30) {p o : Nat} (hp : p < 10) (ho : o < 10) (b6 b7 b8 b9 : Bool) {G : Nat → Nat → Int32} (hw : WF E ad el g w0 ws) (hG : wSet g k (nI ((if b6 = b7 then 0 else 2 ^ p) ||| (if b8 = b9 then 0 else 2 ^ o))) (nI ((if b6 = b7 then 0 else if b7 = true then 2 ^ p else 0) ||| (if b8 = b9 then 0 else if b8 = true then 2 ^ o else 0))) = G) : V E yX1_weighOne cX1_weighOne 10 none 2 0 0 (fun r w => r = none ∧ WF E ad el G w0 w) 136 [some (.ref (ad 8)), some (.int (nI k)), some (.ref (ad 1)), some (.ref (ad 2)), some (.int (nI p)), some (.int (nI o)), some (.int (bI b6)), some (.int (bI b7)), some (.int (bI b8)), some (.int (bI b9))] [] ws 0 0 := by
  refine V_aload_n dX1_weighOne_136 rfl ?_
  refine V_get (8) fl_X1_27 dX1_weighOne_137 hw.p8 rfl ?_
  refine V_iload_n dX1_weighOne_140 rfl ?_
  refine V_iconst (v := 0) dX1_weighOne_141 (by decide) ?_
  refine W_iastN (14) hw (by decide) (fun _ => rfl) dX1_weighOne_142 hk (by decide) (fun ws1 hw1 => ?_)
  refine V_aload_n dX1_weighOne_143 rfl ?_
  refine V_get (8) fl_X1_30 dX1_weighOne_144 hw1.p8 rfl ?_
  refine V_iload_n dX1_weighOne_147 rfl ?_
  refine V_iconst (v := 0) dX1_weighOne_148 (by decide) ?_
  refine W_iastN (15) hw1 (by decide) (fun _ => rfl) dX1_weighOne_149 hk (by decide) (fun ws2 hw2 => ?_)
  have hw2 : WF E ad el (wSet g k (nI 0) (nI 0)) w0 ws2 := hw2
  refine V_iload dX1_weighOne_150 rfl ?_
  refine V_iload dX1_weighOne_152 rfl ?_
  refine V_icmp_eq 192 dX1_weighOne_154 (by decide) (fun h154 => ?_) (fun h154 => ?_)
  · skip
    have e := bI_inj h154
    have f1 : (if b6 = b7 then 0 else 2 ^ p) = 0 := if_pos e
    have f2 : (if b6 = b7 then 0 else if b7 = true then 2 ^ p else 0) = 0 := if_pos e
    exact wo_D3 hk hp ho b6 b7 b8 b9 0 0 hw2 (by rw [← hG, f1, f2])
  · skip
    refine V_aload_n dX1_weighOne_157 rfl ?_
    refine V_get (8) fl_X1_27 dX1_weighOne_158 hw2.p8 rfl ?_
    refine V_iload_n dX1_weighOne_161 rfl ?_
    refine V_dup2 dX1_weighOne_162 rfl rfl ?_
    refine V_ialdN (14) dX1_weighOne_163 hw2.p14 hk (by decide) ?_
    rw [wSet_a]
    refine V_iconst (v := 1) dX1_weighOne_164 (by decide) ?_
    refine V_iload dX1_weighOne_165 rfl ?_
    refine V_ishl dX1_weighOne_167 ?_
    refine V_ior dX1_weighOne_168 ?_
    refine W_iastN (14) hw2 (by decide) (fun _ => rfl) dX1_weighOne_169 hk (by decide) (fun ws3 hw3 => ?_)
    rw [wSet_14] at hw3
    refine V_aload_n dX1_weighOne_170 rfl ?_
    refine V_get (8) fl_X1_30 dX1_weighOne_171 hw3.p8 rfl ?_
    refine V_iload_n dX1_weighOne_174 rfl ?_
    refine V_dup2 dX1_weighOne_175 rfl rfl ?_
    refine V_ialdN (15) dX1_weighOne_176 hw3.p15 hk (by decide) ?_
    rw [wSet_b]
    refine V_iload dX1_weighOne_177 rfl ?_
    refine V_if_eq 189 dX1_weighOne_179 (by decide) (fun h179 => ?_) (fun h179 => ?_)
    · skip
      refine V_iconst (v := 0) dX1_weighOne_189 (by decide) ?_
      refine V_ior dX1_weighOne_190 ?_
      refine W_iastN (15) hw3 (by decide) (fun _ => rfl) dX1_weighOne_191 hk (by decide) (fun ws4 hw4 => ?_)
      have e := bI_ne h154
      have e2 := bI_0 h179
      rw [wSet_15, shl1 p (by omega), nx_or] at hw4
      rw [show nI 0 ||| (0 : Int32) = nI 0 from rfl, Nat.zero_or] at hw4
      have f1 : (if b6 = b7 then 0 else 2 ^ p) = 2 ^ p := if_neg e
      have f2 : (if b6 = b7 then 0 else if b7 = true then 2 ^ p else 0) = 0 := by rw [if_neg e, if_neg (by rw [e2]; decide)]
      exact wo_D3 hk hp ho b6 b7 b8 b9 (2 ^ p) 0 hw4 (by rw [← hG, f1, f2])
    · skip
      refine V_iconst (v := 1) dX1_weighOne_182 (by decide) ?_
      refine V_iload dX1_weighOne_183 rfl ?_
      refine V_ishl dX1_weighOne_185 ?_
      refine V_goto 190 dX1_weighOne_186 (by decide) ?_
      refine V_ior dX1_weighOne_190 ?_
      refine W_iastN (15) hw3 (by decide) (fun _ => rfl) dX1_weighOne_191 hk (by decide) (fun ws4 hw4 => ?_)
      have e := bI_ne h154
      have e2 := bI_1 h179
      rw [wSet_15, shl1 p (by omega), nx_or, Nat.zero_or] at hw4
      have f1 : (if b6 = b7 then 0 else 2 ^ p) = 2 ^ p := if_neg e
      have f2 : (if b6 = b7 then 0 else if b7 = true then 2 ^ p else 0) = 2 ^ p := by rw [if_neg e, if_pos e2]
      exact wo_D3 hk hp ho b6 b7 b8 b9 (2 ^ p) (2 ^ p) hw4 (by rw [← hG, f1, f2])
set_option maxHeartbeats 4000000 in
set_option maxRecDepth 20000 in
theorem wo_D1 {k : Nat} (hk : k < 30) {p o : Nat} (hp : p < 10) (ho : o < 10) (b6 b7 b8 b9 : Bool) (hw : WF E ad el g w0 ws) : V E yX1_weighOne cX1_weighOne 10 none 2 0 0 (fun r w => r = none ∧ WF E ad el (wSet g k (nI (wAsk p o b6 b7 b8 b9)) (nI (wBrk p o b6 b7 b8 b9))) w0 w) 110 [some (.ref (ad 8)), some (.int (nI k)), some (.ref (ad 1)), some (.ref (ad 2)), some (.int (nI p)), some (.int (nI o)), some (.int (bI b6)), some (.int (bI b7)), some (.int (bI b8)), some (.int (bI b9))] [] ws 0 0 := by
  refine V_iload dX1_weighOne_110 rfl ?_
  refine V_if_ne 120 dX1_weighOne_112 (by decide) (fun h112 => ?_) (fun h112 => ?_)
  · skip
    refine V_iload dX1_weighOne_120 rfl ?_
    refine V_if_eq 136 dX1_weighOne_122 (by decide) (fun h122 => ?_) (fun h122 => ?_)
    · skip
      have e1 := bI_1 h112
      have e2 := bI_0 h122
      have f : ¬ (!b6 && !b7 || b8 && b9) = true := by simp [e1, e2]
      exact wo_D2 hk hp ho b6 b7 b8 b9 hw (by rw [wAsk, wBrk, if_neg f, if_neg f])
    · skip
      refine V_iload dX1_weighOne_125 rfl ?_
      refine V_if_eq 136 dX1_weighOne_127 (by decide) (fun h127 => ?_) (fun h127 => ?_)
      · skip
        have e1 := bI_1 h112
        have e2 := bI_1 h122
        have e3 := bI_0 h127
        have f : ¬ (!b6 && !b7 || b8 && b9) = true := by simp [e1, e2, e3]
        exact wo_D2 hk hp ho b6 b7 b8 b9 hw (by rw [wAsk, wBrk, if_neg f, if_neg f])
      · skip
        refine V_aload_n dX1_weighOne_130 rfl ?_
        refine V_iload_n dX1_weighOne_131 rfl ?_
        refine V_callV (8) mw_X1_neverBreaks mv_X1_55 dX1_weighOne_132 (ct_X1_neverBreaks hw.1 hk) hw.p8 rfl rfl rfl (Nat.le_of_ble_eq_true rfl) (by decide) (by decide) (by decide) (by decide) (fun r132 ws1 hp132 => ?_)
        obtain ⟨rfl, hw1⟩ := hp132
        have hw1 := hw.trans hw1
        refine V_vret dX1_weighOne_135 rfl (by decide) (by decide) ?_
        have e2 := bI_1 h122
        have e3 := bI_1 h127
        have f : (!b6 && !b7 || b8 && b9) = true := by simp [e2, e3]
        exact ⟨rfl, by rw [wAsk, wBrk, if_pos f, if_pos f]; exact hw1⟩
  · skip
    refine V_iload dX1_weighOne_115 rfl ?_
    refine V_if_eq 130 dX1_weighOne_117 (by decide) (fun h117 => ?_) (fun h117 => ?_)
    · skip
      refine V_aload_n dX1_weighOne_130 rfl ?_
      refine V_iload_n dX1_weighOne_131 rfl ?_
      refine V_callV (8) mw_X1_neverBreaks mv_X1_55 dX1_weighOne_132 (ct_X1_neverBreaks hw.1 hk) hw.p8 rfl rfl rfl (Nat.le_of_ble_eq_true rfl) (by decide) (by decide) (by decide) (by decide) (fun r132 ws1 hp132 => ?_)
      obtain ⟨rfl, hw1⟩ := hp132
      have hw1 := hw.trans hw1
      refine V_vret dX1_weighOne_135 rfl (by decide) (by decide) ?_
      have e1 := bI_0 h112
      have e0 := bI_0 h117
      have f : (!b6 && !b7 || b8 && b9) = true := by simp [e1, e0]
      exact ⟨rfl, by rw [wAsk, wBrk, if_pos f, if_pos f]; exact hw1⟩
    · skip
      refine V_iload dX1_weighOne_120 rfl ?_
      refine V_if_eq 136 dX1_weighOne_122 (by decide) (fun h122 => ?_) (fun h122 => ?_)
      · skip
        have e1 := bI_0 h112
        have e0 := bI_1 h117
        have e2 := bI_0 h122
        have f : ¬ (!b6 && !b7 || b8 && b9) = true := by simp [e1, e0, e2]
        exact wo_D2 hk hp ho b6 b7 b8 b9 hw (by rw [wAsk, wBrk, if_neg f, if_neg f])
      · skip
        refine V_iload dX1_weighOne_125 rfl ?_
        refine V_if_eq 136 dX1_weighOne_127 (by decide) (fun h127 => ?_) (fun h127 => ?_)
        · skip
          have e1 := bI_0 h112
          have e0 := bI_1 h117
          have e2 := bI_1 h122
          have e3 := bI_0 h127
          have f : ¬ (!b6 && !b7 || b8 && b9) = true := by simp [e1, e0, e2, e3]
          exact wo_D2 hk hp ho b6 b7 b8 b9 hw (by rw [wAsk, wBrk, if_neg f, if_neg f])
        · skip
          refine V_aload_n dX1_weighOne_130 rfl ?_
          refine V_iload_n dX1_weighOne_131 rfl ?_
          refine V_callV (8) mw_X1_neverBreaks mv_X1_55 dX1_weighOne_132 (ct_X1_neverBreaks hw.1 hk) hw.p8 rfl rfl rfl (Nat.le_of_ble_eq_true rfl) (by decide) (by decide) (by decide) (by decide) (fun r132 ws1 hp132 => ?_)
          obtain ⟨rfl, hw1⟩ := hp132
          have hw1 := hw.trans hw1
          refine V_vret dX1_weighOne_135 rfl (by decide) (by decide) ?_
          have e2 := bI_1 h122
          have e3 := bI_1 h127
          have f : (!b6 && !b7 || b8 && b9) = true := by simp [e2, e3]
          exact ⟨rfl, by rw [wAsk, wBrk, if_pos f, if_pos f]; exact hw1⟩
/-- of need k: is its part at the version at home; with its offer; does the other hold at home; with its offer -/
def nH (g : Nat → Nat → Int32) (k : Nat) : Bool := decide (g 1 (g 9 k).toNatClampNeg = g 10 k)
def nO (g : Nat → Nat → Int32) (k : Nat) : Bool := if at10 (g 3) (g 9 k) = -1 then nH g k else decide (at10 (g 3) (g 9 k) = g 10 k)
def nHh (g : Nat → Nat → Int32) (k : Nat) : Bool := hold g k (g 1 (g 11 k).toNatClampNeg)
def nOh (g : Nat → Nat → Int32) (k : Nat) : Bool := if at10 (g 3) (g 11 k) = -1 then nHh g k else hold g k (at10 (g 3) (g 11 k))
def wA (g : Nat → Nat → Int32) (k : Nat) : Int32 := nI (wAsk (g 9 k).toNatClampNeg (g 11 k).toNatClampNeg (nH g k) (nO g k) (nHh g k) (nOh g k))
def wB (g : Nat → Nat → Int32) (k : Nat) : Int32 := nI (wBrk (g 9 k).toNatClampNeg (g 11 k).toNatClampNeg (nH g k) (nO g k) (nHh g k) (nOh g k))
set_option maxHeartbeats 4000000 in
set_option maxRecDepth 20000 in
theorem wo_fin (hw : WF E ad el g w0 ws) {k : Nat} (hk : k < 30) {p o : Nat} (hp : p < 10) (ho : o < 10) (ep : g 9 k = nI p) (eo : g 11 k = nI o) (b8 b9 : Bool) (e8 : b8 = nHh g k) (e9 : b9 = nOh g k) : V E yX1_weighOne cX1_weighOne 10 none 2 0 0 (fun r w => r = none ∧ WF E ad el (wSet g k (wA g k) (wB g k)) w0 w) 110 [some (.ref (ad 8)), some (.int (nI k)), some (.ref (ad 1)), some (.ref (ad 2)), some (.int (nI p)), some (.int (nI o)), some (.int (bI (nH g k))), some (.int (bI (nO g k))), some (.int (bI b8)), some (.int (bI b9))] [] ws 0 0 := by
  subst e8 e9
  have q := wo_D1 hk hp ho (nH g k) (nO g k) (nHh g k) (nOh g k) hw
  unfold wA wB
  rw [ep, eo, nI_clamp (by omega), nI_clamp (by omega)]
  exact q
set_option maxHeartbeats 4000000 in
set_option maxRecDepth 20000 in
theorem wo_C (hw : WF E ad el g w0 ws) {k : Nat} (hk : k < 30) {p o : Nat} (hp : p < 10) (ho : o < 10) (ep : g 9 k = nI p) (eo : g 11 k = nI o) : V E yX1_weighOne cX1_weighOne 10 none 2 0 0 (fun r w => r = none ∧ WF E ad el (wSet g k (wA g k) (wB g k)) w0 w) 72 [some (.ref (ad 8)), some (.int (nI k)), some (.ref (ad 1)), some (.ref (ad 2)), some (.int (nI p)), some (.int (nI o)), some (.int (bI (nH g k))), some (.int (bI (nO g k))), none, none] [] ws 0 0 := by
  refine V_aload_n dX1_weighOne_72 rfl ?_
  refine V_iload_n dX1_weighOne_73 rfl ?_
  refine V_aload_n dX1_weighOne_74 rfl ?_
  refine V_iload dX1_weighOne_75 rfl ?_
  refine V_ialdN (1) dX1_weighOne_77 hw.p1 ho (by decide) ?_
  refine V_rdV (8) mw_X1_holds mv_X1_51 dX1_weighOne_78 (ct_X1_holds hw hk _) hw.p8 rfl rfl rfl (Nat.le_of_ble_eq_true rfl) (by decide) (by decide) (by decide) (by decide) ?_
  have e8 : hold g k (g 1 o) = nHh g k := by rw [nHh, eo, nI_clamp (by omega)]
  rw [e8]
  refine V_istore dX1_weighOne_81 (by decide) ?_
  refine V_aload_n dX1_weighOne_83 rfl ?_
  refine V_iload dX1_weighOne_84 rfl ?_
  refine V_rdV (2) mw_X2_has mv_X1_41 dX1_weighOne_86 (ct_X2_has hw (Or.inl rfl) (nI o)) hw.p2 rfl rfl rfl (Nat.le_of_ble_eq_true rfl) (by decide) (by decide) (by decide) (by decide) ?_
  refine V_if_eq 106 dX1_weighOne_89 (by decide) (fun h89 => ?_) (fun h89 => ?_)
  · skip
    refine V_iload dX1_weighOne_106 rfl ?_
    refine V_istore dX1_weighOne_108 (by decide) ?_
    have c : at10 (g 3) (g 11 k) = -1 := by
      rw [eo]
      by_cases c : at10 (g (2 + 1)) (nI o) = -1
      · exact c
      · rw [if_neg c] at h89
        exact absurd h89 (by decide)
    exact wo_fin hw hk hp ho ep eo _ _ rfl (by rw [nOh, if_pos c])
  · skip
    refine V_aload_n dX1_weighOne_92 rfl ?_
    refine V_iload_n dX1_weighOne_93 rfl ?_
    refine V_aload_n dX1_weighOne_94 rfl ?_
    refine V_iload dX1_weighOne_95 rfl ?_
    refine V_rdV (2) mw_X2_versionOf mv_X1_47 dX1_weighOne_97 (ct_X2_versionOf hw (Or.inl rfl) (nI o)) hw.p2 rfl rfl rfl (Nat.le_of_ble_eq_true rfl) (by decide) (by decide) (by decide) (by decide) ?_
    refine V_rdV (8) mw_X1_holds mv_X1_51 dX1_weighOne_100 (ct_X1_holds hw hk _) hw.p8 rfl rfl rfl (Nat.le_of_ble_eq_true rfl) (by decide) (by decide) (by decide) (by decide) ?_
    refine V_goto 108 dX1_weighOne_103 (by decide) ?_
    refine V_istore dX1_weighOne_108 (by decide) ?_
    have c : ¬ at10 (g 3) (g 11 k) = -1 := by
      rw [eo]
      intro c
      exact h89 (if_pos c)
    exact wo_fin hw hk hp ho ep eo _ _ rfl (by rw [nOh, if_neg c, eo])
set_option maxHeartbeats 4000000 in
set_option maxRecDepth 20000 in
theorem wo_C2 (hw : WF E ad el g w0 ws) {k : Nat} (hk : k < 30) {p o : Nat} (hp : p < 10) (ho : o < 10) (ep : g 9 k = nI p) (eo : g 11 k = nI o) (x : Int32) (ex : x = bI (nO g k)) : V E yX1_weighOne cX1_weighOne 10 none 2 0 0 (fun r w => r = none ∧ WF E ad el (wSet g k (wA g k) (wB g k)) w0 w) 72 [some (.ref (ad 8)), some (.int (nI k)), some (.ref (ad 1)), some (.ref (ad 2)), some (.int (nI p)), some (.int (nI o)), some (.int (bI (nH g k))), some (.int x), none, none] [] ws 0 0 := by
  subst ex
  exact wo_C hw hk hp ho ep eo
set_option maxHeartbeats 4000000 in
set_option maxRecDepth 20000 in
theorem wo_B (hw : WF E ad el g w0 ws) {k : Nat} (hk : k < 30) {p o : Nat} (hp : p < 10) (ho : o < 10) (ep : g 9 k = nI p) (eo : g 11 k = nI o) : V E yX1_weighOne cX1_weighOne 10 none 2 0 0 (fun r w => r = none ∧ WF E ad el (wSet g k (wA g k) (wB g k)) w0 w) 36 [some (.ref (ad 8)), some (.int (nI k)), some (.ref (ad 1)), some (.ref (ad 2)), some (.int (nI p)), some (.int (nI o)), some (.int (bI (nH g k))), none, none, none] [] ws 0 0 := by
  refine V_aload_n dX1_weighOne_36 rfl ?_
  refine V_iload dX1_weighOne_37 rfl ?_
  refine V_rdV (2) mw_X2_has mv_X1_41 dX1_weighOne_39 (ct_X2_has hw (Or.inl rfl) (nI p)) hw.p2 rfl rfl rfl (Nat.le_of_ble_eq_true rfl) (by decide) (by decide) (by decide) (by decide) ?_
  refine V_if_eq 68 dX1_weighOne_42 (by decide) (fun h42 => ?_) (fun h42 => ?_)
  · skip
    refine V_iload dX1_weighOne_68 rfl ?_
    refine V_istore dX1_weighOne_70 (by decide) ?_
    have c : at10 (g 3) (g 9 k) = -1 := by
      rw [ep]
      by_cases c : at10 (g (2 + 1)) (nI p) = -1
      · exact c
      · rw [if_neg c] at h42
        exact absurd h42 (by decide)
    exact wo_C2 hw hk hp ho ep eo _ (by rw [nO, if_pos c])
  · skip
    refine V_aload_n dX1_weighOne_45 rfl ?_
    refine V_iload dX1_weighOne_46 rfl ?_
    refine V_rdV (2) mw_X2_versionOf mv_X1_47 dX1_weighOne_48 (ct_X2_versionOf hw (Or.inl rfl) (nI p)) hw.p2 rfl rfl rfl (Nat.le_of_ble_eq_true rfl) (by decide) (by decide) (by decide) (by decide) ?_
    refine V_aload_n dX1_weighOne_51 rfl ?_
    refine V_get (8) fl_X1_15 dX1_weighOne_52 hw.p8 rfl ?_
    refine V_iload_n dX1_weighOne_55 rfl ?_
    refine V_ialdN (10) dX1_weighOne_56 hw.p10 hk (by decide) ?_
    refine V_icmp_ne 64 dX1_weighOne_57 (by decide) (fun h57 => ?_) (fun h57 => ?_)
    · skip
      refine V_iconst (v := 0) dX1_weighOne_64 (by decide) ?_
      refine V_goto 70 dX1_weighOne_65 (by decide) ?_
      refine V_istore dX1_weighOne_70 (by decide) ?_
      have c : ¬ at10 (g 3) (g 9 k) = -1 := by
        rw [ep]
        intro c
        exact h42 (if_pos c)
      exact wo_C2 hw hk hp ho ep eo _ (by rw [nO, if_neg c, ep, decide_eq_false h57]; rfl)
    · skip
      refine V_iconst (v := 1) dX1_weighOne_60 (by decide) ?_
      refine V_goto 70 dX1_weighOne_61 (by decide) ?_
      refine V_istore dX1_weighOne_70 (by decide) ?_
      have c : ¬ at10 (g 3) (g 9 k) = -1 := by
        rw [ep]
        intro c
        exact h42 (if_pos c)
      exact wo_C2 hw hk hp ho ep eo _ (by rw [nO, if_neg c, ep, decide_eq_true h57]; rfl)
set_option maxHeartbeats 4000000 in
set_option maxRecDepth 20000 in
theorem wo_B2 (hw : WF E ad el g w0 ws) {k : Nat} (hk : k < 30) {p o : Nat} (hp : p < 10) (ho : o < 10) (ep : g 9 k = nI p) (eo : g 11 k = nI o) (x : Int32) (ex : x = bI (nH g k)) : V E yX1_weighOne cX1_weighOne 10 none 2 0 0 (fun r w => r = none ∧ WF E ad el (wSet g k (wA g k) (wB g k)) w0 w) 36 [some (.ref (ad 8)), some (.int (nI k)), some (.ref (ad 1)), some (.ref (ad 2)), some (.int (nI p)), some (.int (nI o)), some (.int x), none, none, none] [] ws 0 0 := by
  subst ex
  exact wo_B hw hk hp ho ep eo
set_option maxHeartbeats 4000000 in
set_option maxRecDepth 20000 in
theorem ct_X1_weighOne (hw : Wd E ad el g ws) {k : Nat} (hk : k < 30) {p o : Nat} (hp : p < 10) (ho : o < 10) (ep : g 9 k = nI p) (eo : g 11 k = nI o) : Ct E yX1_weighOne cX1_weighOne 10 none 2 0 0 [.ref (ad 8), .int (nI k), .ref (ad 1), .ref (ad 2)] ws (fun r w => r = none ∧ WF E ad el (wSet g k (wA g k) (wB g k)) ws w) := by
  refine Ct_of mw_X1_weighOne rfl (Nat.le_of_ble_eq_true rfl) ?_
  have hw := WF.rf hw
  refine V_aload_n dX1_weighOne_0 rfl ?_
  refine V_get (8) fl_X1_9 dX1_weighOne_1 hw.p8 rfl ?_
  refine V_iload_n dX1_weighOne_4 rfl ?_
  refine V_ialdN (9) dX1_weighOne_5 hw.p9 hk (by decide) ?_
  rw [ep]
  refine V_istore dX1_weighOne_6 (by decide) ?_
  refine V_aload_n dX1_weighOne_8 rfl ?_
  refine V_get (8) fl_X1_18 dX1_weighOne_9 hw.p8 rfl ?_
  refine V_iload_n dX1_weighOne_12 rfl ?_
  refine V_ialdN (11) dX1_weighOne_13 hw.p11 hk (by decide) ?_
  rw [eo]
  refine V_istore dX1_weighOne_14 (by decide) ?_
  refine V_aload_n dX1_weighOne_16 rfl ?_
  refine V_iload dX1_weighOne_17 rfl ?_
  refine V_ialdN (1) dX1_weighOne_19 hw.p1 hp (by decide) ?_
  refine V_aload_n dX1_weighOne_20 rfl ?_
  refine V_get (8) fl_X1_15 dX1_weighOne_21 hw.p8 rfl ?_
  refine V_iload_n dX1_weighOne_24 rfl ?_
  refine V_ialdN (10) dX1_weighOne_25 hw.p10 hk (by decide) ?_
  refine V_icmp_ne 33 dX1_weighOne_26 (by decide) (fun h26 => ?_) (fun h26 => ?_)
  · skip
    refine V_iconst (v := 0) dX1_weighOne_33 (by decide) ?_
    refine V_istore dX1_weighOne_34 (by decide) ?_
    exact wo_B2 hw hk hp ho ep eo _ (by rw [nH, ep, nI_clamp (by omega), decide_eq_false h26]; rfl)
  · skip
    refine V_iconst (v := 1) dX1_weighOne_29 (by decide) ?_
    refine V_goto 34 dX1_weighOne_30 (by decide) ?_
    refine V_istore dX1_weighOne_34 (by decide) ?_
    exact wo_B2 hw hk hp ho ep eo _ (by rw [nH, ep, nI_clamp (by omega), decide_eq_true h26]; rfl)
/-- the first i needs weighed -/
def wTo (g : Nat → Nat → Int32) (i : Nat) : Nat → Nat → Int32 := va_up (va_up g 14 (fun k => if k < i then wA g k else g 14 k)) 15 (fun k => if k < i then wB g k else g 15 k)
theorem wTo_0 (g : Nat → Nat → Int32) : wTo g 0 = g := by
  have e1 : (fun k => if k < 0 then wA g k else g 14 k) = g 14 := by funext k; rw [if_neg (Nat.not_lt_zero k)]
  have e2 : (fun k => if k < 0 then wB g k else g 15 k) = g 15 := by funext k; rw [if_neg (Nat.not_lt_zero k)]
  rw [wTo, e1, e2, va_up_id, va_up_id]
theorem wTo_s (g : Nat → Nat → Int32) (i : Nat) : wSet (wTo g i) i (wA (wTo g i) i) (wB (wTo g i) i) = wTo g (i + 1) := by
  have e1 : upd (fun k => if k < i then wA g k else g 14 k) i (wA g i) = (fun k => if k < i + 1 then wA g k else g 14 k) := by
    funext k
    unfold upd
    by_cases h : k = i
    · subst h; simp
    · by_cases h2 : k < i
      · rw [if_neg h]; dsimp only; rw [if_pos h2, if_pos (by omega)]
      · rw [if_neg h]; dsimp only; rw [if_neg h2, if_neg (by omega)]
  have e2 : upd (fun k => if k < i then wB g k else g 15 k) i (wB g i) = (fun k => if k < i + 1 then wB g k else g 15 k) := by
    funext k
    unfold upd
    by_cases h : k = i
    · subst h; simp
    · by_cases h2 : k < i
      · rw [if_neg h]; dsimp only; rw [if_pos h2, if_pos (by omega)]
      · rw [if_neg h]; dsimp only; rw [if_neg h2, if_neg (by omega)]
  show va_up (va_up (va_up (va_up g 14 _) 15 _) 14 (upd (fun k => if k < i then wA g k else g 14 k) i (wA g i))) 15 (upd (fun k => if k < i then wB g k else g 15 k) i (wB g i)) = _
  rw [e1, e2, va_up_sw _ (by decide) _ (fun k => if k < i + 1 then wA g k else g 14 k), va_up_up, va_up_up]
  rfl
/-- the parts of the needs are parts -/
def NOK (g : Nat → Nat → Int32) (n : Nat) : Prop := ∀ k, k < n → ∃ p o : Nat, p < 10 ∧ o < 10 ∧ g 9 k = nI p ∧ g 11 k = nI o
set_option maxHeartbeats 4000000 in
set_option maxRecDepth 20000 in
theorem lp_X1_weigh {n : Nat} (hn : g 8 7 = nI n) (hN : n ≤ 30) (hok : NOK g n) : ∀ (k i : Nat) (x : Int32) (ws : va_W), i ≤ n → n < i + k → x = nI i → WF E ad el (wTo g i) w0 ws → V E yX1_weigh cX1_weigh 4 none 3 0 0 (fun r w => r = none ∧ WF E ad el (wTo g n) w0 w) 2 [some (.ref (ad 8)), some (.ref (ad 1)), some (.ref (ad 2)), some (.int x)] [] ws 0 0 := by
  intro k
  induction k with
  | zero => intro i x ws h1 h2; exact absurd h2 (by omega)
  | succ k ih =>
    intro i x ws hil hin hx hw
    subst hx
    refine V_iload_n dX1_weigh_2 rfl ?_
    refine V_aload_n dX1_weigh_3 rfl ?_
    refine V_get (8) fl_X1_33 dX1_weigh_4 hw.p8 rfl ?_
    refine V_icmp_ge 23 dX1_weigh_7 (by decide) (fun h7 => ?_) (fun h7 => ?_)
    · skip
      refine V_vret dX1_weigh_23 rfl (by decide) (by decide) ?_
      have hi : i = n := by have := leK (a := n) (b := i) (by omega) (by omega) (by rw [← hn]; exact h7); omega
      subst hi
      exact ⟨rfl, hw⟩
    · skip
      have hi := nleK (a := n) (b := i) (by omega) (by omega) (by rw [← hn]; exact h7)
      obtain ⟨p, o, hp, ho, ep, eo⟩ := hok i hi
      refine V_aload_n dX1_weigh_10 rfl ?_
      refine V_iload_n dX1_weigh_11 rfl ?_
      refine V_aload_n dX1_weigh_12 rfl ?_
      refine V_aload_n dX1_weigh_13 rfl ?_
      refine V_callV (8) mw_X1_weighOne mv_X1_37 dX1_weigh_14 (ct_X1_weighOne hw.1 (by omega) hp ho ep eo) hw.p8 rfl rfl rfl (Nat.le_of_ble_eq_true rfl) (by decide) (by decide) (by decide) (by decide) (fun r14 ws1 hp14 => ?_)
      obtain ⟨rfl, hw1⟩ := hp14
      have hw1 := hw.trans hw1
      rw [wTo_s] at hw1
      refine V_iinc dX1_weigh_17 rfl rfl (by decide) ?_
      refine V_goto 2 dX1_weigh_20 (by decide) ?_
      exact ih (i + 1) _ _ (by omega) (by omega) (nI_1 i) hw1
set_option maxHeartbeats 4000000 in
set_option maxRecDepth 20000 in
theorem ct_X1_weigh (hw : Wd E ad el g ws) {n : Nat} (hn : g 8 7 = nI n) (hN : n ≤ 30) (hok : NOK g n) : Ct E yX1_weigh cX1_weigh 4 none 3 0 0 [.ref (ad 8), .ref (ad 1), .ref (ad 2)] ws (fun r w => r = none ∧ WF E ad el (wTo g n) ws w) := by
  refine Ct_of mw_X1_weigh rfl (Nat.le_of_ble_eq_true rfl) ?_
  refine V_iconst (v := 0) dX1_weigh_0 (by decide) ?_
  refine V_istore_n dX1_weigh_1 (by decide) ?_
  exact lp_X1_weigh hn hN hok (n + 1) 0 _ ws (Nat.zero_le _) (by omega) rfl (by rw [wTo_0]; exact WF.rf hw)
end NDS
