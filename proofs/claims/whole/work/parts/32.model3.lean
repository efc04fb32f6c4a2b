/-! ===== the reference: next, giveUp, ways, told, was, brought, count ===== -/
def nxS1 (g : Nat → Nat → Int32) (p : Nat) : Nat → Nat → Int32 := if g 29 p = -1 then g else if g 29 p = g 26 p then g else va_up (va_up g 27 (upd (g 27) p (g 29 p))) 28 (upd (g 28) p (g 30 p))
def nxStep (g : Nat → Nat → Int32) (p : Nat) : Nat → Nat → Int32 := va_up (nxS1 g p) 29 (upd (nxS1 g p 29) p (-1))
def nxG (g : Nat → Nat → Int32) : Nat → Nat → Nat → Int32
  | 0 => va_up g 25 (upd (g 25) 25 0)
  | p + 1 => nxStep (nxG g p) p
theorem nxS1_k (g : Nat → Nat → Int32) (p k : Nat) (h7 : k ≠ 27) (h8 : k ≠ 28) : nxS1 g p k = g k := by
  unfold nxS1
  split
  · rfl
  · split
    · rfl
    · rw [va_up_ne _ _ h8, va_up_ne _ _ h7]
theorem nxStep_k (g : Nat → Nat → Int32) (p k : Nat) (h7 : k ≠ 27) (h8 : k ≠ 28) (h9 : k ≠ 29) : nxStep g p k = g k := by
  unfold nxStep
  rw [va_up_ne _ _ h9, nxS1_k g p k h7 h8]
theorem nxG_k (g : Nat → Nat → Int32) (k : Nat) (h5 : k ≠ 25) (h7 : k ≠ 27) (h8 : k ≠ 28) (h9 : k ≠ 29) : ∀ p, nxG g p k = g k
  | 0 => va_up_ne _ _ h5
  | p + 1 => by
    unfold nxG
    rw [nxStep_k _ _ _ h7 h8 h9]
    exact nxG_k g k h5 h7 h8 h9 p
theorem nxG_25 (g : Nat → Nat → Int32) : ∀ p, nxG g p 25 = upd (g 25) 25 0
  | 0 => va_up_self _ _ _
  | p + 1 => by
    unfold nxG
    rw [nxStep_k _ _ _ (by decide) (by decide) (by decide)]
    exact nxG_25 g p
def mGiveUp (g : Nat → Nat → Int32) (nP : Nat) : Int32 × (Nat → Nat → Int32) := if g 25 25 = 0 then (0, g) else (1, nxG g nP)
def mWay (g : Nat → Nat → Int32) (nW : Nat) (p v : Int32) : Int32 := fi (pWay (g 37) (g 38) p v) nW 0
def mAddWay (g : Nat → Nat → Int32) (p v : Int32) : Nat → Nat → Int32 := va_up (va_up (va_up g 37 (upd (g 37) (g 25 22).toNatClampNeg p)) 38 (upd (g 38) (g 25 22).toNatClampNeg v)) 25 (upd (g 25) 22 (g 25 22 + 1))
def mDelWay (g : Nat → Nat → Int32) (i : Nat) : Nat → Nat → Int32 := va_up (va_up (va_up g 25 (upd (g 25) 22 (g 25 22 - 1))) 37 (upd (g 37) i (g 37 (g 25 22 - 1).toNatClampNeg))) 38 (upd (g 38) i (g 38 (g 25 22 - 1).toNatClampNeg))
def mOneWay (g : Nat → Nat → Int32) (nW : Nat) (p v : Int32) (is : Bool) : Int32 × (Nat → Nat → Int32) := if mIsPt g p = true then if isInB v 0 1000 = true then if mWay g nW p v = -1 then (if is = true then (if g 25 22 = 60 then (0, g) else (1, mAddWay g p v)) else (0, g)) else (if is = true then (0, g) else (1, mDelWay g (mWay g nW p v).toNatClampNeg)) else (0, g) else (0, g)
def mTold (g : Nat → Nat → Int32) (p wh : Int32) : Int32 × (Nat → Nat → Int32) := if mIsPt g p = true then if wh = 0 then (g 26 p.toNatClampNeg, g) else if wh = 1 then (g 27 p.toNatClampNeg, g) else if wh = 2 then (if g 27 p.toNatClampNeg = -1 then (-1, g) else (g 28 p.toNatClampNeg, g)) else if wh = 3 then (g 29 p.toNatClampNeg, g) else if wh = 4 then (if g 29 p.toNatClampNeg = -1 then (-1, g) else (g 30 p.toNatClampNeg, g)) else (-1, g) else (-1, g)
def thr (g : Nat → Nat → Int32) (x : Int32) : Nat → Nat → Int32 := va_up g 25 (upd (g 25) 0 x)
def mWas (g : Nat → Nat → Int32) (t p bh : Int32) : Int32 × (Nat → Nat → Int32) := if t < 0 then (0, thr g 1) else if g 25 23 ≤ t then (0, thr g 1) else if p < 0 then (0, thr g 1) else if p < g 39 t.toNatClampNeg then (if bh = 0 then (g 41 (10 * t + p).toNatClampNeg, thr g 0) else (g 42 (10 * t + p).toNatClampNeg, thr g 0)) else (0, thr g 1)
def mBrought (g : Nat → Nat → Int32) (t : Int32) : Int32 × (Nat → Nat → Int32) := if t < 0 then (-1, g) else if g 25 23 ≤ t then (-1, g) else (g 40 t.toNatClampNeg, g)
/-- how many of the first k aren't marked -/
def outN (f : Nat → Int32) : Nat → Nat
  | 0 => 0
  | k + 1 => if f k = 0 then outN f k + 1 else outN f k
def mCount (g : Nat → Nat → Int32) (nP nN nR : Nat) (wh : Int32) : Int32 × (Nat → Nat → Int32) := if wh = 0 then (g 25 19, g) else if wh = 1 then (g 25 20, g) else if wh = 2 then (g 25 21, g) else if wh = 3 then (g 25 23, g) else if wh = 4 then (nI (outN (g 43) nR), g) else if wh = 5 then (nI (popc (mOff g nP)), g) else if wh = 6 then (g 25 22, g) else if wh = 7 then (if g 25 25 = 0 then (0, g) else (1, g)) else if wh = 8 then (if mBrk g nN 0 = -1 then (1, g) else (0, g)) else (-1, g)
section MD3
variable {E : VE} {ad : Nat → Nat} {el : Nat} {g : Nat → Nat → Int32} {w0 ws : va_W}
set_option maxHeartbeats 4000000 in
set_option maxRecDepth 20000 in
theorem lp_X8_next {nP : Nat} (hP : g 25 19 = nI nP) (hP10 : nP ≤ 10) : ∀ (k i : Nat) (x : Int32) (ws : va_W), i ≤ nP → nP < i + k → x = nI i → WF E ad el (nxG g i) w0 ws → V E yX8_next cX8_next 2 none 0 0 0 (fun r w => r = none ∧ WF E ad el (nxG g nP) w0 w) 7 [some (.ref (ad 25)), some (.int x)] [] ws 0 0 := by
  intro k
  induction k with
  | zero => intro i x ws h1 h2; exact absurd h2 (by omega)
  | succ k ih =>
    intro i x ws hil hin hx hw
    subst hx
    refine V_iload_n dX8_next_7 rfl ?_
    refine V_aload_n dX8_next_8 rfl ?_
    refine V_get (25) fl_X8_75 dX8_next_9 hw.p25 rfl ?_
    refine V_icmp_ge 77 dX8_next_12 (by decide) (fun h12 => ?_) (fun h12 => ?_)
    · skip
      refine V_vret dX8_next_77 rfl (by decide) (by decide) ?_
      rw [show nxG g i 25 19 = nI nP from by rw [nxG_25]; exact hP] at h12
      have hi : i = nP := by have := leK (a := nP) (b := i) (by omega) (by omega) h12; omega
      subst hi
      exact ⟨rfl, hw⟩
    · skip
      rw [show nxG g i 25 19 = nI nP from by rw [nxG_25]; exact hP] at h12
      have hi := nleK (a := nP) (b := i) (by omega) (by omega) h12
      refine V_aload_n dX8_next_15 rfl ?_
      refine V_get (25) fl_X8_19 dX8_next_16 hw.p25 rfl ?_
      refine V_iload_n dX8_next_19 rfl ?_
      refine V_ialdN (29) dX8_next_20 hw.p29 (by omega) (by first | decide | omega) ?_
      refine V_iconst (v := -1) dX8_next_21 (by decide) ?_
      refine V_icmp_eq 64 dX8_next_22 (by decide) (fun h22 => ?_) (fun h22 => ?_)
      · skip
        refine V_aload_n dX8_next_64 rfl ?_
        refine V_get (25) fl_X8_19 dX8_next_65 hw.p25 rfl ?_
        refine V_iload_n dX8_next_68 rfl ?_
        refine V_iconst (v := -1) dX8_next_69 (by decide) ?_
        refine W_iastN (29) hw (by decide) (fun _ => rfl) dX8_next_70 (by omega) (by first | decide | omega) (fun ws1 hw1 => ?_)
        refine V_iinc dX8_next_71 rfl rfl (by decide) ?_
        refine V_goto 7 dX8_next_74 (by decide) ?_
        exact ih (i + 1) _ _ (by omega) (by omega) (nI_1 i) (by rw [nxG, nxStep, nxS1, if_pos h22]; exact hw1)
      · skip
        refine V_aload_n dX8_next_25 rfl ?_
        refine V_get (25) fl_X8_19 dX8_next_26 hw.p25 rfl ?_
        refine V_iload_n dX8_next_29 rfl ?_
        refine V_ialdN (29) dX8_next_30 hw.p29 (by omega) (by first | decide | omega) ?_
        refine V_aload_n dX8_next_31 rfl ?_
        refine V_get (25) fl_X8_9 dX8_next_32 hw.p25 rfl ?_
        refine V_iload_n dX8_next_35 rfl ?_
        refine V_ialdN (26) dX8_next_36 hw.p26 (by omega) (by first | decide | omega) ?_
        refine V_icmp_eq 64 dX8_next_37 (by decide) (fun h37 => ?_) (fun h37 => ?_)
        · skip
          refine V_aload_n dX8_next_64 rfl ?_
          refine V_get (25) fl_X8_19 dX8_next_65 hw.p25 rfl ?_
          refine V_iload_n dX8_next_68 rfl ?_
          refine V_iconst (v := -1) dX8_next_69 (by decide) ?_
          refine W_iastN (29) hw (by decide) (fun _ => rfl) dX8_next_70 (by omega) (by first | decide | omega) (fun ws1 hw1 => ?_)
          refine V_iinc dX8_next_71 rfl rfl (by decide) ?_
          refine V_goto 7 dX8_next_74 (by decide) ?_
          exact ih (i + 1) _ _ (by omega) (by omega) (nI_1 i) (by rw [nxG, nxStep, nxS1, if_neg h22, if_pos h37]; exact hw1)
        · skip
          refine V_aload_n dX8_next_40 rfl ?_
          refine V_get (25) fl_X8_13 dX8_next_41 hw.p25 rfl ?_
          refine V_iload_n dX8_next_44 rfl ?_
          refine V_aload_n dX8_next_45 rfl ?_
          refine V_get (25) fl_X8_19 dX8_next_46 hw.p25 rfl ?_
          refine V_iload_n dX8_next_49 rfl ?_
          refine V_ialdN (29) dX8_next_50 hw.p29 (by omega) (by first | decide | omega) ?_
          refine W_iastN (27) hw (by decide) (fun _ => rfl) dX8_next_51 (by omega) (by first | decide | omega) (fun ws1 hw1 => ?_)
          refine V_aload_n dX8_next_52 rfl ?_
          refine V_get (25) fl_X8_16 dX8_next_53 hw1.p25 rfl ?_
          refine V_iload_n dX8_next_56 rfl ?_
          refine V_aload_n dX8_next_57 rfl ?_
          refine V_get (25) fl_X8_22 dX8_next_58 hw1.p25 rfl ?_
          refine V_iload_n dX8_next_61 rfl ?_
          refine V_ialdN (30) dX8_next_62 hw1.p30 (by omega) (by first | decide | omega) ?_
          refine W_iastN (28) hw1 (by decide) (fun _ => rfl) dX8_next_63 (by omega) (by first | decide | omega) (fun ws2 hw2 => ?_)
          refine V_aload_n dX8_next_64 rfl ?_
          refine V_get (25) fl_X8_19 dX8_next_65 hw2.p25 rfl ?_
          refine V_iload_n dX8_next_68 rfl ?_
          refine V_iconst (v := -1) dX8_next_69 (by decide) ?_
          refine W_iastN (29) hw2 (by decide) (fun _ => rfl) dX8_next_70 (by omega) (by first | decide | omega) (fun ws3 hw3 => ?_)
          refine V_iinc dX8_next_71 rfl rfl (by decide) ?_
          refine V_goto 7 dX8_next_74 (by decide) ?_
          exact ih (i + 1) _ _ (by omega) (by omega) (nI_1 i) (by rw [nxG, nxStep, nxS1, if_neg h22, if_neg h37]; exact hw3)
set_option maxHeartbeats 4000000 in
set_option maxRecDepth 20000 in
theorem ct_X8_next (hw : Wd E ad el g ws) {nP : Nat} (hP : g 25 19 = nI nP) (hP10 : nP ≤ 10) : Ct E yX8_next cX8_next 2 none 0 0 0 [.ref (ad 25)] ws (fun r w => r = none ∧ WF E ad el (nxG g nP) ws w) := by
  refine Ct_of mw_X8_next rfl (Nat.le_of_ble_eq_true rfl) ?_
  have hw := WF.rf hw
  refine V_aload_n dX8_next_0 rfl ?_
  refine V_iconst (v := 0) dX8_next_1 (by decide) ?_
  refine W_put (25) hw (by decide) fp_X8_78 dX8_next_2 rfl rfl rfl rfl (Nat.le_of_ble_eq_true rfl) (fun ws1 hw1 => ?_)
  refine V_iconst (v := 0) dX8_next_5 (by decide) ?_
  refine V_istore_n dX8_next_6 (by decide) ?_
  exact lp_X8_next hP hP10 (nP + 1) 0 _ _ (Nat.zero_le _) (by omega) rfl hw1
set_option maxHeartbeats 4000000 in
set_option maxRecDepth 20000 in
theorem ct_X8_giveUp (hw : Wd E ad el g ws) {nP : Nat} (hP : g 25 19 = nI nP) (hP10 : nP ≤ 10) : Ct E yX8_giveUp cX8_giveUp 1 (some (.boolean)) 1 0 0 [.ref (ad 25)] ws (fun r w => r = some (.int (mGiveUp (T0 g) nP).1) ∧ WF E ad el (mGiveUp (T0 g) nP).2 ws w) := by
  refine Ct_of mw_X8_giveUp rfl (Nat.le_of_ble_eq_true rfl) ?_
  have hw := WF.rf hw
  refine V_aload_n dX8_giveUp_0 rfl ?_
  refine V_iconst (v := 0) dX8_giveUp_1 (by decide) ?_
  refine W_put (25) hw (by decide) fp_X8_71 dX8_giveUp_2 rfl rfl rfl rfl (Nat.le_of_ble_eq_true rfl) (fun ws1 hw1 => ?_)
  have hw1 : WF E ad el (T0 g) ws ws1 := hw1
  refine V_aload_n dX8_giveUp_5 rfl ?_
  refine V_get (25) fl_X8_78 dX8_giveUp_6 hw1.p25 rfl ?_
  refine V_if_ne 14 dX8_giveUp_9 (by decide) (fun h9 => ?_) (fun h9 => ?_)
  · skip
    refine V_aload_n dX8_giveUp_14 rfl ?_
    refine V_callV (25) mw_X8_next mv_X8_152 dX8_giveUp_15 (ct_X8_next hw1.1 hP hP10) hw1.p25 rfl rfl rfl (Nat.le_of_ble_eq_true rfl) (by decide) (by decide) (by decide) (by decide) (fun r15 ws2 hp15 => ?_)
    obtain ⟨rfl, hw2⟩ := hp15
    have hw2 := hw1.trans hw2
    refine V_iconst (v := 1) dX8_giveUp_18 (by decide) ?_
    refine V_zret dX8_giveUp_19 rfl (by first | exact Or.inl rfl | exact Or.inr rfl) (by decide) (by decide) ?_
    exact fin2 (by rw [mGiveUp, if_neg h9]; try rfl) hw2
  · skip
    refine V_iconst (v := 0) dX8_giveUp_12 (by decide) ?_
    refine V_zret dX8_giveUp_13 rfl (by first | exact Or.inl rfl | exact Or.inr rfl) (by decide) (by decide) ?_
    exact fin2 (by rw [mGiveUp, if_pos h9]; try rfl) hw1
set_option maxHeartbeats 4000000 in
set_option maxRecDepth 20000 in
theorem lp_X8_way (hw : WF E ad el g w0 ws) {nW : Nat} (hW : g 25 22 = nI nW) (hW60 : nW ≤ 60) (p v : Int32) : ∀ (k i : Nat) (x : Int32), i ≤ nW → nW < i + k → x = nI i → mWay g nW p v = fi (pWay (g 37) (g 38) p v) (nW - i) i → V E yX8_way cX8_way 4 (some (.int)) 0 0 0 (fun r w => r = some (.int (mWay g nW p v)) ∧ w = ws) 2 [some (.ref (ad 25)), some (.int p), some (.int v), some (.int x)] [] ws 0 0 := by
  intro k
  induction k with
  | zero => intro i x h1 h2; exact absurd h2 (by omega)
  | succ k ih =>
    intro i x hil hin hx hinv
    subst hx
    refine V_iload_n dX8_way_2 rfl ?_
    refine V_aload_n dX8_way_3 rfl ?_
    refine V_get (25) fl_X8_155 dX8_way_4 hw.p25 rfl ?_
    refine V_icmp_ge 38 dX8_way_7 (by decide) (fun h7 => ?_) (fun h7 => ?_)
    · skip
      refine V_iconst (v := -1) dX8_way_38 (by decide) ?_
      refine V_iret dX8_way_39 rfl (by decide) (by decide) ?_
      have hi := leK (a := nW) (b := i) (by omega) (by omega) (by rw [← hW]; exact h7)
      exact ⟨by rw [hinv, fi_end hi], rfl⟩
    · skip
      have hi := nleK (a := nW) (b := i) (by omega) (by omega) (by rw [← hW]; exact h7)
      refine V_aload_n dX8_way_10 rfl ?_
      refine V_get (25) fl_X8_43 dX8_way_11 hw.p25 rfl ?_
      refine V_iload_n dX8_way_14 rfl ?_
      refine V_ialdN (37) dX8_way_15 hw.p37 (by omega) (by first | decide | omega) ?_
      refine V_iload_n dX8_way_16 rfl ?_
      refine V_icmp_ne 32 dX8_way_17 (by decide) (fun h17 => ?_) (fun h17 => ?_)
      · skip
        refine V_iinc dX8_way_32 rfl rfl (by decide) ?_
        refine V_goto 2 dX8_way_35 (by decide) ?_
        exact ih (i + 1) _ (by omega) (by omega) (nI_1 i) (by rw [hinv, fi_step hi, if_neg (by simp [pWay, h17])])
      · skip
        refine V_aload_n dX8_way_20 rfl ?_
        refine V_get (25) fl_X8_46 dX8_way_21 hw.p25 rfl ?_
        refine V_iload_n dX8_way_24 rfl ?_
        refine V_ialdN (38) dX8_way_25 hw.p38 (by omega) (by first | decide | omega) ?_
        refine V_iload_n dX8_way_26 rfl ?_
        refine V_icmp_ne 32 dX8_way_27 (by decide) (fun h27 => ?_) (fun h27 => ?_)
        · skip
          refine V_iinc dX8_way_32 rfl rfl (by decide) ?_
          refine V_goto 2 dX8_way_35 (by decide) ?_
          exact ih (i + 1) _ (by omega) (by omega) (nI_1 i) (by rw [hinv, fi_step hi, if_neg (by simp [pWay, h27])])
        · skip
          refine V_iload_n dX8_way_30 rfl ?_
          refine V_iret dX8_way_31 rfl (by decide) (by decide) ?_
          exact ⟨by rw [hinv, fi_step hi, if_pos (by simp [pWay, h17, h27])], rfl⟩
set_option maxHeartbeats 4000000 in
set_option maxRecDepth 20000 in
theorem ct_X8_way (hw : WF E ad el g w0 ws) {nW : Nat} (hW : g 25 22 = nI nW) (hW60 : nW ≤ 60) (p v : Int32) : Ct E yX8_way cX8_way 4 (some (.int)) 0 0 0 [.ref (ad 25), .int p, .int v] ws (fun r w => r = some (.int (mWay g nW p v)) ∧ w = ws) := by
  refine Ct_of mw_X8_way rfl (Nat.le_of_ble_eq_true rfl) ?_
  refine V_iconst (v := 0) dX8_way_0 (by decide) ?_
  refine V_istore_n dX8_way_1 (by decide) ?_
  exact lp_X8_way hw hW hW60 p v (nW + 1) 0 _ (Nat.zero_le _) (by omega) rfl rfl
set_option maxHeartbeats 4000000 in
set_option maxRecDepth 20000 in
theorem ct_X8_oneWay (hw : Wd E ad el g ws) {nW : Nat} (hW : g 25 22 = nI nW) (hW60 : nW ≤ 60) (p v : Int32) (is : Bool) : Ct E yX8_oneWay cX8_oneWay 5 (some (.boolean)) 1 0 0 [.ref (ad 25), .int p, .int v, .int (bI is)] ws (fun r w => r = some (.int (mOneWay (T0 g) nW p v is).1) ∧ WF E ad el (mOneWay (T0 g) nW p v is).2 ws w) := by
  refine Ct_of mw_X8_oneWay rfl (Nat.le_of_ble_eq_true rfl) ?_
  have hw := WF.rf hw
  refine V_aload_n dX8_oneWay_0 rfl ?_
  refine V_iconst (v := 0) dX8_oneWay_1 (by decide) ?_
  refine W_put (25) hw (by decide) fp_X8_71 dX8_oneWay_2 rfl rfl rfl rfl (Nat.le_of_ble_eq_true rfl) (fun ws1 hw1 => ?_)
  have hw1 : WF E ad el (T0 g) ws ws1 := hw1
  refine V_aload_n dX8_oneWay_5 rfl ?_
  refine V_iload_n dX8_oneWay_6 rfl ?_
  refine V_rdV (25) mw_X8_isPart mv_X8_86 dX8_oneWay_7 (ct_X8_isPart hw1 p) hw1.p25 rfl rfl rfl (Nat.le_of_ble_eq_true rfl) (by decide) (by decide) (by decide) (by decide) ?_
  refine V_if_eq 24 dX8_oneWay_10 (by decide) (fun h10 => ?_) (fun h10 => ?_)
  · skip
    refine V_iconst (v := 0) dX8_oneWay_24 (by decide) ?_
    refine V_zret dX8_oneWay_25 rfl (by first | exact Or.inl rfl | exact Or.inr rfl) (by decide) (by decide) ?_
    exact fin2 (by rw [mOneWay, if_neg (nb (bI_0 h10))]; try rfl) hw1
  · skip
    refine V_iload_n dX8_oneWay_13 rfl ?_
    refine V_iconst (v := 0) dX8_oneWay_14 (by decide) ?_
    refine V_sipush (v := 1000) dX8_oneWay_15 (by decide) ?_
    refine V_rdS mw_X8_isIn ms_X8_82 dX8_oneWay_18 (ct_X8_isIn _ _ _) rfl rfl (Nat.le_of_ble_eq_true rfl) (by decide) (by decide) (by decide) (by decide) ?_
    refine V_if_ne 26 dX8_oneWay_21 (by decide) (fun h21 => ?_) (fun h21 => ?_)
    · skip
      refine V_aload_n dX8_oneWay_26 rfl ?_
      refine V_iload_n dX8_oneWay_27 rfl ?_
      refine V_iload_n dX8_oneWay_28 rfl ?_
      refine V_rdV (25) mw_X8_way mv_X8_158 dX8_oneWay_29 (ct_X8_way hw1 hW hW60 p v) hw1.p25 rfl rfl rfl (Nat.le_of_ble_eq_true rfl) (by decide) (by decide) (by decide) (by decide) ?_
      refine V_istore dX8_oneWay_32 (by decide) ?_
      refine V_iload dX8_oneWay_34 rfl ?_
      refine V_iconst (v := -1) dX8_oneWay_36 (by decide) ?_
      refine V_icmp_eq 44 dX8_oneWay_37 (by decide) (fun h37 => ?_) (fun h37 => ?_)
      · skip
        refine V_iconst (v := 0) dX8_oneWay_44 (by decide) ?_
        refine V_iload_n dX8_oneWay_45 rfl ?_
        refine V_icmp_eq 62 dX8_oneWay_46 (by decide) (fun h46 => ?_) (fun h46 => ?_)
        · skip
          refine V_iconst (v := 0) dX8_oneWay_62 (by decide) ?_
          refine V_zret dX8_oneWay_63 rfl (by first | exact Or.inl rfl | exact Or.inr rfl) (by decide) (by decide) ?_
          have e : is = false := bI_0 (show bI is = 0 from h46.symm)
          exact fin2 (by rw [mOneWay, if_pos (bI_1 h10), if_pos (bI_1 h21), if_pos h37, if_neg (nb e)]; try rfl) hw1
        · skip
          refine V_iload_n dX8_oneWay_49 rfl ?_
          refine V_if_eq 64 dX8_oneWay_50 (by decide) (fun h50 => absurd (show (0 : Int32) = bI is from h50.symm) h46) (fun h50 => ?_)
          refine V_aload_n dX8_oneWay_53 rfl ?_
          refine V_get (25) fl_X8_155 dX8_oneWay_54 hw1.p25 rfl ?_
          refine V_bipush (v := 60) dX8_oneWay_57 (by decide) ?_
          refine V_icmp_ne 64 dX8_oneWay_59 (by decide) (fun h59 => ?_) (fun h59 => ?_)
          · skip
            refine V_iload_n dX8_oneWay_64 rfl ?_
            refine V_if_eq 100 dX8_oneWay_65 (by decide) (fun h65 => absurd (show (0 : Int32) = bI is from h65.symm) h46) (fun h65 => ?_)
            have hin : vp_in (T0 g 25 22) 60 := by
              rw [show T0 g 25 22 = nI nW from hW] at h59 ⊢
              exact vp_in_nI (Nat.lt_of_le_of_ne hW60 (fun z => h59 (by rw [z]; rfl))) (by decide)
            refine V_aload_n dX8_oneWay_68 rfl ?_
            refine V_get (25) fl_X8_43 dX8_oneWay_69 hw1.p25 rfl ?_
            refine V_aload_n dX8_oneWay_72 rfl ?_
            refine V_get (25) fl_X8_155 dX8_oneWay_73 hw1.p25 rfl ?_
            refine V_iload_n dX8_oneWay_76 rfl ?_
            refine W_iast (37) hw1 (by decide) (fun _ => rfl) dX8_oneWay_77 hin (fun ws2 hw2 => ?_)
            refine V_aload_n dX8_oneWay_78 rfl ?_
            refine V_get (25) fl_X8_46 dX8_oneWay_79 hw2.p25 rfl ?_
            refine V_aload_n dX8_oneWay_82 rfl ?_
            refine V_get (25) fl_X8_155 dX8_oneWay_83 hw2.p25 rfl ?_
            refine V_iload_n dX8_oneWay_86 rfl ?_
            refine W_iast (38) hw2 (by decide) (fun _ => rfl) dX8_oneWay_87 hin (fun ws3 hw3 => ?_)
            refine V_aload_n dX8_oneWay_88 rfl ?_
            refine V_dup dX8_oneWay_89 rfl ?_
            refine V_get (25) fl_X8_155 dX8_oneWay_90 hw3.p25 rfl ?_
            refine V_iconst (v := 1) dX8_oneWay_93 (by decide) ?_
            refine V_iadd dX8_oneWay_94 ?_
            refine W_put (25) hw3 (by decide) fp_X8_155 dX8_oneWay_95 rfl rfl rfl rfl (Nat.le_of_ble_eq_true rfl) (fun ws4 hw4 => ?_)
            refine V_iconst (v := 1) dX8_oneWay_98 (by decide) ?_
            refine V_zret dX8_oneWay_99 rfl (by first | exact Or.inl rfl | exact Or.inr rfl) (by decide) (by decide) ?_
            have e : is = true := bI_1 (fun z => h46 z.symm)
            have h59 : ¬ T0 g 25 22 = 60 := h59
            exact fin2 (by rw [mOneWay, if_pos (bI_1 h10), if_pos (bI_1 h21), if_pos h37, if_pos e, if_neg h59]; try rfl) hw4
          · skip
            refine V_iconst (v := 0) dX8_oneWay_62 (by decide) ?_
            refine V_zret dX8_oneWay_63 rfl (by first | exact Or.inl rfl | exact Or.inr rfl) (by decide) (by decide) ?_
            have e : is = true := bI_1 (fun z => h46 z.symm)
            have h59 : T0 g 25 22 = 60 := h59
            exact fin2 (by rw [mOneWay, if_pos (bI_1 h10), if_pos (bI_1 h21), if_pos h37, if_pos e, if_pos h59]; try rfl) hw1
      · skip
        refine V_iconst (v := 1) dX8_oneWay_40 (by decide) ?_
        refine V_goto 45 dX8_oneWay_41 (by decide) ?_
        refine V_iload_n dX8_oneWay_45 rfl ?_
        refine V_icmp_eq 62 dX8_oneWay_46 (by decide) (fun h46 => ?_) (fun h46 => ?_)
        · skip
          refine V_iconst (v := 0) dX8_oneWay_62 (by decide) ?_
          refine V_zret dX8_oneWay_63 rfl (by first | exact Or.inl rfl | exact Or.inr rfl) (by decide) (by decide) ?_
          have e : is = true := bI_1 (fun z => by rw [z] at h46; exact absurd h46 (by decide))
          exact fin2 (by rw [mOneWay, if_pos (bI_1 h10), if_pos (bI_1 h21), if_neg h37, if_pos e]; try rfl) hw1
        · skip
          refine V_iload_n dX8_oneWay_49 rfl ?_
          refine V_if_eq 64 dX8_oneWay_50 (by decide) (fun h50 => ?_) (fun h50 => absurd (by rw [bI_1 h50]; rfl) h46)
          refine V_iload_n dX8_oneWay_64 rfl ?_
          refine V_if_eq 100 dX8_oneWay_65 (by decide) (fun h65 => ?_) (fun h65 => absurd h50 h65)
          obtain ⟨j, -, hj, -, ej⟩ : ∃ j, 0 ≤ j ∧ j < 0 + nW ∧ pWay (T0 g 37) (T0 g 38) p v j = true ∧ mWay (T0 g) nW p v = nI j := by
            rcases fi_some (P := pWay (T0 g 37) (T0 g 38) p v) nW 0 with h | h
            · exact absurd h h37
            · exact h
          have hin1 : vp_in (mWay (T0 g) nW p v) 60 := by rw [ej]; exact vp_in_nI (by omega) (by decide)
          have hin2 : vp_in (T0 g 25 22 - 1) 60 := by rw [show T0 g 25 22 = nI nW from hW, show nW = (nW - 1) + 1 by omega, nI_pred]; exact vp_in_nI (by omega) (by decide)
          refine V_aload_n dX8_oneWay_100 rfl ?_
          refine V_dup dX8_oneWay_101 rfl ?_
          refine V_get (25) fl_X8_155 dX8_oneWay_102 hw1.p25 rfl ?_
          refine V_iconst (v := 1) dX8_oneWay_105 (by decide) ?_
          refine V_isub dX8_oneWay_106 ?_
          refine W_put (25) hw1 (by decide) fp_X8_155 dX8_oneWay_107 rfl rfl rfl rfl (Nat.le_of_ble_eq_true rfl) (fun ws2 hw2 => ?_)
          refine V_aload_n dX8_oneWay_110 rfl ?_
          refine V_get (25) fl_X8_43 dX8_oneWay_111 hw2.p25 rfl ?_
          refine V_iload dX8_oneWay_114 rfl ?_
          refine V_aload_n dX8_oneWay_116 rfl ?_
          refine V_get (25) fl_X8_43 dX8_oneWay_117 hw2.p25 rfl ?_
          refine V_aload_n dX8_oneWay_120 rfl ?_
          refine V_get (25) fl_X8_155 dX8_oneWay_121 hw2.p25 rfl ?_
          refine V_iald (37) dX8_oneWay_124 hw2.p37 hin2 ?_
          refine W_iast (37) hw2 (by decide) (fun _ => rfl) dX8_oneWay_125 hin1 (fun ws3 hw3 => ?_)
          refine V_aload_n dX8_oneWay_126 rfl ?_
          refine V_get (25) fl_X8_46 dX8_oneWay_127 hw3.p25 rfl ?_
          refine V_iload dX8_oneWay_130 rfl ?_
          refine V_aload_n dX8_oneWay_132 rfl ?_
          refine V_get (25) fl_X8_46 dX8_oneWay_133 hw3.p25 rfl ?_
          refine V_aload_n dX8_oneWay_136 rfl ?_
          refine V_get (25) fl_X8_155 dX8_oneWay_137 hw3.p25 rfl ?_
          refine V_iald (38) dX8_oneWay_140 hw3.p38 hin2 ?_
          refine W_iast (38) hw3 (by decide) (fun _ => rfl) dX8_oneWay_141 hin1 (fun ws4 hw4 => ?_)
          refine V_iconst (v := 1) dX8_oneWay_142 (by decide) ?_
          refine V_zret dX8_oneWay_143 rfl (by first | exact Or.inl rfl | exact Or.inr rfl) (by decide) (by decide) ?_
          have e : is = false := by cases is with
            | false => rfl
            | true => exact absurd rfl h46
          exact fin2 (by rw [mOneWay, if_pos (bI_1 h10), if_pos (bI_1 h21), if_neg h37, if_neg (nb e)]; try rfl) hw4
    · skip
      refine V_iconst (v := 0) dX8_oneWay_24 (by decide) ?_
      refine V_zret dX8_oneWay_25 rfl (by first | exact Or.inl rfl | exact Or.inr rfl) (by decide) (by decide) ?_
      exact fin2 (by rw [mOneWay, if_pos (bI_1 h10), if_neg (nb (bI_0 h21))]; try rfl) hw1
set_option maxHeartbeats 4000000 in
set_option maxRecDepth 20000 in
theorem ct_X8_told (hw : Wd E ad el g ws) {nP : Nat} (hP : g 25 19 = nI nP) (hP10 : nP ≤ 10) (p wh : Int32) : Ct E yX8_told cX8_told 3 (some (.int)) 1 0 0 [.ref (ad 25), .int p, .int wh] ws (fun r w => r = some (.int (mTold (T0 g) p wh).1) ∧ WF E ad el (mTold (T0 g) p wh).2 ws w) := by
  refine Ct_of mw_X8_told rfl (Nat.le_of_ble_eq_true rfl) ?_
  have hw := WF.rf hw
  refine V_aload_n dX8_told_0 rfl ?_
  refine V_iconst (v := 0) dX8_told_1 (by decide) ?_
  refine W_put (25) hw (by decide) fp_X8_71 dX8_told_2 rfl rfl rfl rfl (Nat.le_of_ble_eq_true rfl) (fun ws1 hw1 => ?_)
  have hw1 : WF E ad el (T0 g) ws ws1 := hw1
  refine V_aload_n dX8_told_5 rfl ?_
  refine V_iload_n dX8_told_6 rfl ?_
  refine V_rdV (25) mw_X8_isPart mv_X8_86 dX8_told_7 (ct_X8_isPart hw1 p) hw1.p25 rfl rfl rfl (Nat.le_of_ble_eq_true rfl) (by decide) (by decide) (by decide) (by decide) ?_
  refine V_if_ne 15 dX8_told_10 (by decide) (fun h10 => ?_) (fun h10 => ?_)
  · skip
    refine V_iload_n dX8_told_15 rfl ?_
    rcases pk_ix wh (n := 5) (by decide) with q | q | ⟨j, hj, rfl⟩
    · refine V_tableOut 115 dX8_told_16 (Or.inl (by rw [Int32.lt_iff_toInt_lt] at q; exact q)) (by decide) ?_
      refine V_iconst (v := -1) dX8_told_115 (by decide) ?_
      refine V_iret dX8_told_116 rfl (by decide) (by decide) ?_
      have n0 : ∀ j, j < 5 → ¬ wh = nI j := fun j hj e => by rw [e] at q; exact absurd q (nI_pos (by omega))
      exact fin2 (by rw [mTold, if_pos (bI_1 h10), if_neg (show ¬ wh = 0 from n0 0 (by decide)), if_neg (show ¬ wh = 1 from n0 1 (by decide)), if_neg (show ¬ wh = 2 from n0 2 (by decide)), if_neg (show ¬ wh = 3 from n0 3 (by decide)), if_neg (show ¬ wh = 4 from n0 4 (by decide))]; try rfl) hw1
    · refine V_tableOut 115 dX8_told_16 (Or.inr (by rw [Int32.le_iff_toInt_le, nI_toInt (by decide)] at q; omega)) (by decide) ?_
      refine V_iconst (v := -1) dX8_told_115 (by decide) ?_
      refine V_iret dX8_told_116 rfl (by decide) (by decide) ?_
      have n0 : ∀ j, j < 5 → ¬ wh = nI j := fun j hj e => by rw [e] at q; exact absurd (leK (by decide) (by omega) q) (by omega)
      exact fin2 (by rw [mTold, if_pos (bI_1 h10), if_neg (show ¬ wh = 0 from n0 0 (by decide)), if_neg (show ¬ wh = 1 from n0 1 (by decide)), if_neg (show ¬ wh = 2 from n0 2 (by decide)), if_neg (show ¬ wh = 3 from n0 3 (by decide)), if_neg (show ¬ wh = 4 from n0 4 (by decide))]; try rfl) hw1
    · rcases (show j = 0 ∨ j = 1 ∨ j = 2 ∨ j = 3 ∨ j = 4 by omega) with rfl | rfl | rfl | rfl | rfl
      · refine V_tableIn 52 dX8_told_16 (by decide) (by decide) rfl (by decide) ?_
        refine V_aload_n dX8_told_52 rfl ?_
        refine V_get (25) fl_X8_9 dX8_told_53 hw1.p25 rfl ?_
        refine V_iload_n dX8_told_56 rfl ?_
        refine V_iald (26) dX8_told_57 hw1.p26 (by obtain ⟨j, hj, rfl⟩ := mIsPt_in (g := T0 g) hP hP10 (bI_1 h10); exact vp_in_nI (by omega) (by decide)) ?_
        refine V_iret dX8_told_58 rfl (by decide) (by decide) ?_
        exact fin2 (by rw [mTold, if_pos (bI_1 h10), if_pos (show nI 0 = 0 by decide)]; try rfl) hw1
      · refine V_tableIn 59 dX8_told_16 (by decide) (by decide) rfl (by decide) ?_
        refine V_aload_n dX8_told_59 rfl ?_
        refine V_get (25) fl_X8_13 dX8_told_60 hw1.p25 rfl ?_
        refine V_iload_n dX8_told_63 rfl ?_
        refine V_iald (27) dX8_told_64 hw1.p27 (by obtain ⟨j, hj, rfl⟩ := mIsPt_in (g := T0 g) hP hP10 (bI_1 h10); exact vp_in_nI (by omega) (by decide)) ?_
        refine V_iret dX8_told_65 rfl (by decide) (by decide) ?_
        exact fin2 (by rw [mTold, if_pos (bI_1 h10), if_neg (show ¬ nI 1 = 0 by decide), if_pos (show nI 1 = 1 by decide)]; try rfl) hw1
      · refine V_tableIn 66 dX8_told_16 (by decide) (by decide) rfl (by decide) ?_
        refine V_aload_n dX8_told_66 rfl ?_
        refine V_get (25) fl_X8_13 dX8_told_67 hw1.p25 rfl ?_
        refine V_iload_n dX8_told_70 rfl ?_
        refine V_iald (27) dX8_told_71 hw1.p27 (by obtain ⟨j, hj, rfl⟩ := mIsPt_in (g := T0 g) hP hP10 (bI_1 h10); exact vp_in_nI (by omega) (by decide)) ?_
        refine V_iconst (v := -1) dX8_told_72 (by decide) ?_
        refine V_icmp_ne 80 dX8_told_73 (by decide) (fun h73 => ?_) (fun h73 => ?_)
        · skip
          refine V_aload_n dX8_told_80 rfl ?_
          refine V_get (25) fl_X8_16 dX8_told_81 hw1.p25 rfl ?_
          refine V_iload_n dX8_told_84 rfl ?_
          refine V_iald (28) dX8_told_85 hw1.p28 (by obtain ⟨j, hj, rfl⟩ := mIsPt_in (g := T0 g) hP hP10 (bI_1 h10); exact vp_in_nI (by omega) (by decide)) ?_
          refine V_iret dX8_told_86 rfl (by decide) (by decide) ?_
          exact fin2 (by rw [mTold, if_pos (bI_1 h10), if_neg (show ¬ nI 2 = 0 by decide), if_neg (show ¬ nI 2 = 1 by decide), if_pos (show nI 2 = 2 by decide), if_neg h73]; try rfl) hw1
        · skip
          refine V_iconst (v := -1) dX8_told_76 (by decide) ?_
          refine V_goto 86 dX8_told_77 (by decide) ?_
          refine V_iret dX8_told_86 rfl (by decide) (by decide) ?_
          exact fin2 (by rw [mTold, if_pos (bI_1 h10), if_neg (show ¬ nI 2 = 0 by decide), if_neg (show ¬ nI 2 = 1 by decide), if_pos (show nI 2 = 2 by decide), if_pos h73]; try rfl) hw1
      · refine V_tableIn 87 dX8_told_16 (by decide) (by decide) rfl (by decide) ?_
        refine V_aload_n dX8_told_87 rfl ?_
        refine V_get (25) fl_X8_19 dX8_told_88 hw1.p25 rfl ?_
        refine V_iload_n dX8_told_91 rfl ?_
        refine V_iald (29) dX8_told_92 hw1.p29 (by obtain ⟨j, hj, rfl⟩ := mIsPt_in (g := T0 g) hP hP10 (bI_1 h10); exact vp_in_nI (by omega) (by decide)) ?_
        refine V_iret dX8_told_93 rfl (by decide) (by decide) ?_
        exact fin2 (by rw [mTold, if_pos (bI_1 h10), if_neg (show ¬ nI 3 = 0 by decide), if_neg (show ¬ nI 3 = 1 by decide), if_neg (show ¬ nI 3 = 2 by decide), if_pos (show nI 3 = 3 by decide)]; try rfl) hw1
      · refine V_tableIn 94 dX8_told_16 (by decide) (by decide) rfl (by decide) ?_
        refine V_aload_n dX8_told_94 rfl ?_
        refine V_get (25) fl_X8_19 dX8_told_95 hw1.p25 rfl ?_
        refine V_iload_n dX8_told_98 rfl ?_
        refine V_iald (29) dX8_told_99 hw1.p29 (by obtain ⟨j, hj, rfl⟩ := mIsPt_in (g := T0 g) hP hP10 (bI_1 h10); exact vp_in_nI (by omega) (by decide)) ?_
        refine V_iconst (v := -1) dX8_told_100 (by decide) ?_
        refine V_icmp_ne 108 dX8_told_101 (by decide) (fun h101 => ?_) (fun h101 => ?_)
        · skip
          refine V_aload_n dX8_told_108 rfl ?_
          refine V_get (25) fl_X8_22 dX8_told_109 hw1.p25 rfl ?_
          refine V_iload_n dX8_told_112 rfl ?_
          refine V_iald (30) dX8_told_113 hw1.p30 (by obtain ⟨j, hj, rfl⟩ := mIsPt_in (g := T0 g) hP hP10 (bI_1 h10); exact vp_in_nI (by omega) (by decide)) ?_
          refine V_iret dX8_told_114 rfl (by decide) (by decide) ?_
          exact fin2 (by rw [mTold, if_pos (bI_1 h10), if_neg (show ¬ nI 4 = 0 by decide), if_neg (show ¬ nI 4 = 1 by decide), if_neg (show ¬ nI 4 = 2 by decide), if_neg (show ¬ nI 4 = 3 by decide), if_pos (show nI 4 = 4 by decide), if_neg h101]; try rfl) hw1
        · skip
          refine V_iconst (v := -1) dX8_told_104 (by decide) ?_
          refine V_goto 114 dX8_told_105 (by decide) ?_
          refine V_iret dX8_told_114 rfl (by decide) (by decide) ?_
          exact fin2 (by rw [mTold, if_pos (bI_1 h10), if_neg (show ¬ nI 4 = 0 by decide), if_neg (show ¬ nI 4 = 1 by decide), if_neg (show ¬ nI 4 = 2 by decide), if_neg (show ¬ nI 4 = 3 by decide), if_pos (show nI 4 = 4 by decide), if_pos h101]; try rfl) hw1
  · skip
    refine V_iconst (v := -1) dX8_told_13 (by decide) ?_
    refine V_iret dX8_told_14 rfl (by decide) (by decide) ?_
    exact fin2 (by rw [mTold, if_neg (nb (bI_0 h10))]; try rfl) hw1
set_option maxHeartbeats 4000000 in
set_option maxRecDepth 20000 in
theorem ct_X8_was (hw : Wd E ad el g ws) {nR : Nat} (hR : g 25 23 = nI nR) (hR60 : nR ≤ 60) (hTP : ∀ t, t < nR → ∃ n, n ≤ 10 ∧ g 39 t = nI n) (t p bh : Int32) : Ct E yX8_was cX8_was 4 (some (.int)) 0 0 0 [.ref (ad 25), .int t, .int p, .int bh] ws (fun r w => r = some (.int (mWas g t p bh).1) ∧ WF E ad el (mWas g t p bh).2 ws w) := by
  refine Ct_of mw_X8_was rfl (Nat.le_of_ble_eq_true rfl) ?_
  have hw := WF.rf hw
  have hin2 : ¬ t < 0 → ¬ g 25 23 ≤ t → ∃ j, j < nR ∧ t = nI j := by
    intro h1 h2
    rcases pk_ix t (n := nR) (by omega) with q | q | q
    · exact absurd q h1
    · exact absurd (by rw [hR]; exact q) h2
    · exact q
  have hin3 : ¬ t < 0 → ¬ g 25 23 ≤ t → ¬ p < 0 → p < g 39 t.toNatClampNeg → vp_in (10 * t + p) 600 := by
    intro h1 h2 h3 h4
    obtain ⟨j, hj, rfl⟩ := hin2 h1 h2
    obtain ⟨n, hn, en⟩ := hTP j hj
    rw [nI_clamp (by omega), en] at h4
    obtain ⟨q, hq, rfl⟩ := nI_of h3
    have := ltK (a := q) (b := n) hq (by omega) h4
    rw [show (10 : Int32) * nI j = nI (10 * j) from pk_mul 10 j, nI_add]
    exact vp_in_nI (by omega) (by decide)
  refine V_aload_n dX8_was_0 rfl ?_
  refine V_iload_n dX8_was_1 rfl ?_
  refine V_if_lt 27 dX8_was_2 (by decide) (fun h2 => ?_) (fun h2 => ?_)
  · skip
    refine V_iconst (v := 1) dX8_was_27 (by decide) ?_
    refine V_goto 32 dX8_was_28 (by decide) ?_
    refine W_put (25) hw (by decide) fp_X8_71 dX8_was_32 rfl rfl rfl rfl (Nat.le_of_ble_eq_true rfl) (fun ws1 hw1 => ?_)
    refine V_aload_n dX8_was_35 rfl ?_
    refine V_get (25) fl_X8_71 dX8_was_36 hw1.p25 rfl ?_
    refine V_if_le 46 dX8_was_39 (by decide) (fun h39 => absurd (show (1 : Int32) ≤ 0 from h39) (by decide)) (fun h39 => ?_)
    refine V_iconst (v := 0) dX8_was_42 (by decide) ?_
    refine V_goto 75 dX8_was_43 (by decide) ?_
    refine V_iret dX8_was_75 rfl (by decide) (by decide) ?_
    exact fin2 (by rw [mWas, if_pos h2]; try rfl) hw1
  · skip
    refine V_iload_n dX8_was_5 rfl ?_
    refine V_aload_n dX8_was_6 rfl ?_
    refine V_get (25) fl_X8_149 dX8_was_7 hw.p25 rfl ?_
    refine V_icmp_ge 27 dX8_was_10 (by decide) (fun h10 => ?_) (fun h10 => ?_)
    · skip
      refine V_iconst (v := 1) dX8_was_27 (by decide) ?_
      refine V_goto 32 dX8_was_28 (by decide) ?_
      refine W_put (25) hw (by decide) fp_X8_71 dX8_was_32 rfl rfl rfl rfl (Nat.le_of_ble_eq_true rfl) (fun ws1 hw1 => ?_)
      refine V_aload_n dX8_was_35 rfl ?_
      refine V_get (25) fl_X8_71 dX8_was_36 hw1.p25 rfl ?_
      refine V_if_le 46 dX8_was_39 (by decide) (fun h39 => absurd (show (1 : Int32) ≤ 0 from h39) (by decide)) (fun h39 => ?_)
      refine V_iconst (v := 0) dX8_was_42 (by decide) ?_
      refine V_goto 75 dX8_was_43 (by decide) ?_
      refine V_iret dX8_was_75 rfl (by decide) (by decide) ?_
      exact fin2 (by rw [mWas, if_neg h2, if_pos h10]; try rfl) hw1
    · skip
      refine V_iload_n dX8_was_13 rfl ?_
      refine V_if_lt 27 dX8_was_14 (by decide) (fun h14 => ?_) (fun h14 => ?_)
      · skip
        refine V_iconst (v := 1) dX8_was_27 (by decide) ?_
        refine V_goto 32 dX8_was_28 (by decide) ?_
        refine W_put (25) hw (by decide) fp_X8_71 dX8_was_32 rfl rfl rfl rfl (Nat.le_of_ble_eq_true rfl) (fun ws1 hw1 => ?_)
        refine V_aload_n dX8_was_35 rfl ?_
        refine V_get (25) fl_X8_71 dX8_was_36 hw1.p25 rfl ?_
        refine V_if_le 46 dX8_was_39 (by decide) (fun h39 => absurd (show (1 : Int32) ≤ 0 from h39) (by decide)) (fun h39 => ?_)
        refine V_iconst (v := 0) dX8_was_42 (by decide) ?_
        refine V_goto 75 dX8_was_43 (by decide) ?_
        refine V_iret dX8_was_75 rfl (by decide) (by decide) ?_
        exact fin2 (by rw [mWas, if_neg h2, if_neg h10, if_pos h14]; try rfl) hw1
      · skip
        refine V_iload_n dX8_was_17 rfl ?_
        refine V_aload_n dX8_was_18 rfl ?_
        refine V_get (25) fl_X8_49 dX8_was_19 hw.p25 rfl ?_
        refine V_iload_n dX8_was_22 rfl ?_
        refine V_iald (39) dX8_was_23 hw.p39 (by obtain ⟨j, hj, rfl⟩ := hin2 h2 h10; exact vp_in_nI (by omega) (by decide)) ?_
        refine V_icmp_lt 31 dX8_was_24 (by decide) (fun h24 => ?_) (fun h24 => ?_)
        · skip
          refine V_iconst (v := 0) dX8_was_31 (by decide) ?_
          refine W_put (25) hw (by decide) fp_X8_71 dX8_was_32 rfl rfl rfl rfl (Nat.le_of_ble_eq_true rfl) (fun ws1 hw1 => ?_)
          refine V_aload_n dX8_was_35 rfl ?_
          refine V_get (25) fl_X8_71 dX8_was_36 hw1.p25 rfl ?_
          refine V_if_le 46 dX8_was_39 (by decide) (fun h39 => ?_) (fun h39 => absurd (show (0 : Int32) ≤ 0 by decide) h39)
          refine V_iload_n dX8_was_46 rfl ?_
          refine V_if_eq 64 dX8_was_47 (by decide) (fun h47 => ?_) (fun h47 => ?_)
          · skip
            refine V_aload_n dX8_was_64 rfl ?_
            refine V_get (25) fl_X8_55 dX8_was_65 hw1.p25 rfl ?_
            refine V_bipush (v := 10) dX8_was_68 (by decide) ?_
            refine V_iload_n dX8_was_70 rfl ?_
            refine V_imul dX8_was_71 ?_
            refine V_iload_n dX8_was_72 rfl ?_
            refine V_iadd dX8_was_73 ?_
            refine V_iald (41) dX8_was_74 hw1.p41 (hin3 h2 h10 h14 h24) ?_
            refine V_iret dX8_was_75 rfl (by decide) (by decide) ?_
            exact fin2 (by rw [mWas, if_neg h2, if_neg h10, if_neg h14, if_pos h24, if_pos h47]; try rfl) hw1
          · skip
            refine V_aload_n dX8_was_50 rfl ?_
            refine V_get (25) fl_X8_58 dX8_was_51 hw1.p25 rfl ?_
            refine V_bipush (v := 10) dX8_was_54 (by decide) ?_
            refine V_iload_n dX8_was_56 rfl ?_
            refine V_imul dX8_was_57 ?_
            refine V_iload_n dX8_was_58 rfl ?_
            refine V_iadd dX8_was_59 ?_
            refine V_iald (42) dX8_was_60 hw1.p42 (hin3 h2 h10 h14 h24) ?_
            refine V_goto 75 dX8_was_61 (by decide) ?_
            refine V_iret dX8_was_75 rfl (by decide) (by decide) ?_
            exact fin2 (by rw [mWas, if_neg h2, if_neg h10, if_neg h14, if_pos h24, if_neg h47]; try rfl) hw1
        · skip
          refine V_iconst (v := 1) dX8_was_27 (by decide) ?_
          refine V_goto 32 dX8_was_28 (by decide) ?_
          refine W_put (25) hw (by decide) fp_X8_71 dX8_was_32 rfl rfl rfl rfl (Nat.le_of_ble_eq_true rfl) (fun ws1 hw1 => ?_)
          refine V_aload_n dX8_was_35 rfl ?_
          refine V_get (25) fl_X8_71 dX8_was_36 hw1.p25 rfl ?_
          refine V_if_le 46 dX8_was_39 (by decide) (fun h39 => absurd (show (1 : Int32) ≤ 0 from h39) (by decide)) (fun h39 => ?_)
          refine V_iconst (v := 0) dX8_was_42 (by decide) ?_
          refine V_goto 75 dX8_was_43 (by decide) ?_
          refine V_iret dX8_was_75 rfl (by decide) (by decide) ?_
          exact fin2 (by rw [mWas, if_neg h2, if_neg h10, if_neg h14, if_neg h24]; try rfl) hw1
set_option maxHeartbeats 4000000 in
set_option maxRecDepth 20000 in
theorem ct_X8_brought (hw : Wd E ad el g ws) {nR : Nat} (hR : g 25 23 = nI nR) (hR60 : nR ≤ 60) (t : Int32) : Ct E yX8_brought cX8_brought 2 (some (.int)) 0 0 0 [.ref (ad 25), .int t] ws (fun r w => r = some (.int (mBrought (T0 g) t).1) ∧ WF E ad el (mBrought (T0 g) t).2 ws w) := by
  refine Ct_of mw_X8_brought rfl (Nat.le_of_ble_eq_true rfl) ?_
  have hw := WF.rf hw
  refine V_aload_n dX8_brought_0 rfl ?_
  refine V_iconst (v := 0) dX8_brought_1 (by decide) ?_
  refine W_put (25) hw (by decide) fp_X8_71 dX8_brought_2 rfl rfl rfl rfl (Nat.le_of_ble_eq_true rfl) (fun ws1 hw1 => ?_)
  have hw1 : WF E ad el (T0 g) ws ws1 := hw1
  refine V_iload_n dX8_brought_5 rfl ?_
  refine V_if_lt 26 dX8_brought_6 (by decide) (fun h6 => ?_) (fun h6 => ?_)
  · skip
    refine V_iconst (v := -1) dX8_brought_26 (by decide) ?_
    refine V_iret dX8_brought_27 rfl (by decide) (by decide) ?_
    exact fin2 (by rw [mBrought, if_pos h6]; try rfl) hw1
  · skip
    refine V_iload_n dX8_brought_9 rfl ?_
    refine V_aload_n dX8_brought_10 rfl ?_
    refine V_get (25) fl_X8_149 dX8_brought_11 hw1.p25 rfl ?_
    refine V_icmp_ge 26 dX8_brought_14 (by decide) (fun h14 => ?_) (fun h14 => ?_)
    · skip
      refine V_iconst (v := -1) dX8_brought_26 (by decide) ?_
      refine V_iret dX8_brought_27 rfl (by decide) (by decide) ?_
      exact fin2 (by rw [mBrought, if_neg h6, if_pos h14]; try rfl) hw1
    · skip
      refine V_aload_n dX8_brought_17 rfl ?_
      refine V_get (25) fl_X8_52 dX8_brought_18 hw1.p25 rfl ?_
      refine V_iload_n dX8_brought_21 rfl ?_
      refine V_iald (40) dX8_brought_22 hw1.p40 (by rcases pk_ix t (n := nR) (by omega) with q | q | ⟨j, hj, rfl⟩; exact absurd q h6; exact absurd (show T0 g 25 23 ≤ t from by rw [show T0 g 25 23 = nI nR from hR]; exact q) h14; exact vp_in_nI (by omega) (by decide)) ?_
      refine V_goto 27 dX8_brought_23 (by decide) ?_
      refine V_iret dX8_brought_27 rfl (by decide) (by decide) ?_
      exact fin2 (by rw [mBrought, if_neg h6, if_neg h14]; try rfl) hw1
set_option maxHeartbeats 4000000 in
set_option maxRecDepth 20000 in
theorem lp_X8_count {nR : Nat} (hR : g 25 23 = nI nR) (hR60 : nR ≤ 60) {P : Option Value → va_W → Prop} (hpo : ∀ ws, WF E ad el g w0 ws → P (some (.int (nI (outN (g 43) nR)))) ws) (z1 : Option Value) : ∀ (k i : Nat) (x m : Int32) (ws : va_W), i ≤ nR → nR < i + k → x = nI i → m = nI (outN (g 43) i) → WF E ad el g w0 ws → V E yX8_count cX8_count 4 (some (.int)) 3 0 0 P 82 [some (.ref (ad 25)), z1, some (.int m), some (.int x)] [] ws 0 0 := by
  intro k
  induction k with
  | zero => intro i x m ws h1 h2; exact absurd h2 (by omega)
  | succ k ih =>
    intro i x m ws hil hin hx hm hw
    subst hx hm
    refine V_iload_n dX8_count_82 rfl ?_
    refine V_aload_n dX8_count_83 rfl ?_
    refine V_get (25) fl_X8_149 dX8_count_84 hw.p25 rfl ?_
    refine V_icmp_ge 113 dX8_count_87 (by decide) (fun h87 => ?_) (fun h87 => ?_)
    · skip
      refine V_iload_n dX8_count_113 rfl ?_
      refine V_iret dX8_count_114 rfl (by decide) (by decide) ?_
      have hi : i = nR := by have := leK (a := nR) (b := i) (by omega) (by omega) (by rw [← hR]; exact h87); omega
      subst hi
      exact hpo _ hw
    · skip
      have hi := nleK (a := nR) (b := i) (by omega) (by omega) (by rw [← hR]; exact h87)
      refine V_iload_n dX8_count_90 rfl ?_
      refine V_aload_n dX8_count_91 rfl ?_
      refine V_get (25) fl_X8_61 dX8_count_92 hw.p25 rfl ?_
      refine V_iload_n dX8_count_95 rfl ?_
      refine V_zaldN (43) dX8_count_96 hw.p43 (by omega) (by first | decide | omega) ?_
      refine V_if_eq 104 dX8_count_97 (by decide) (fun h97 => ?_) (fun h97 => ?_)
      · skip
        refine V_iconst (v := 1) dX8_count_104 (by decide) ?_
        refine V_iadd dX8_count_105 ?_
        refine V_istore_n dX8_count_106 (by decide) ?_
        refine V_iinc dX8_count_107 rfl rfl (by decide) ?_
        refine V_goto 82 dX8_count_110 (by decide) ?_
        exact ih (i + 1) _ _ _ (by omega) (by omega) (nI_1 i) (by rw [outN, if_pos h97]; exact nI_1 _) hw
      · skip
        refine V_iconst (v := 0) dX8_count_100 (by decide) ?_
        refine V_goto 105 dX8_count_101 (by decide) ?_
        refine V_iadd dX8_count_105 ?_
        refine V_istore_n dX8_count_106 (by decide) ?_
        refine V_iinc dX8_count_107 rfl rfl (by decide) ?_
        refine V_goto 82 dX8_count_110 (by decide) ?_
        exact ih (i + 1) _ _ _ (by omega) (by omega) (nI_1 i) (by rw [outN, if_neg h97]; exact Int32.add_zero _) hw
set_option maxHeartbeats 4000000 in
set_option maxRecDepth 20000 in
theorem ct_X8_count (hw : Wd E ad el g ws) {nP : Nat} (hP : g 25 19 = nI nP) (hP10 : nP ≤ 10) {nN : Nat} (hN : g 25 20 = nI nN) (hN30 : nN ≤ 30) (hok : MNOK g nN) {nR : Nat} (hR : g 25 23 = nI nR) (hR60 : nR ≤ 60) (wh : Int32) : Ct E yX8_count cX8_count 4 (some (.int)) 3 0 0 [.ref (ad 25), .int wh] ws (fun r w => r = some (.int (mCount (T0 g) nP nN nR wh).1) ∧ WF E ad el (mCount (T0 g) nP nN nR wh).2 ws w) := by
  refine Ct_of mw_X8_count rfl (Nat.le_of_ble_eq_true rfl) ?_
  have hw := WF.rf hw
  have hM : mOff (T0 g) nP < 1024 := Nat.lt_of_lt_of_le (maskN_lt _ nP) (Nat.pow_le_pow_right (by decide) hP10)
  refine V_aload_n dX8_count_0 rfl ?_
  refine V_iconst (v := 0) dX8_count_1 (by decide) ?_
  refine W_put (25) hw (by decide) fp_X8_71 dX8_count_2 rfl rfl rfl rfl (Nat.le_of_ble_eq_true rfl) (fun ws1 hw1 => ?_)
  have hw1 : WF E ad el (T0 g) ws ws1 := hw1
  refine V_iconst (v := 0) dX8_count_5 (by decide) ?_
  refine V_istore_n dX8_count_6 (by decide) ?_
  refine V_iload_n dX8_count_7 rfl ?_
  rcases pk_ix wh (n := 9) (by decide) with q | q | ⟨j, hj, rfl⟩
  · refine V_tableOut 156 dX8_count_8 (Or.inl (by rw [Int32.lt_iff_toInt_lt] at q; exact q)) (by decide) ?_
    refine V_iconst (v := -1) dX8_count_156 (by decide) ?_
    refine V_iret dX8_count_157 rfl (by decide) (by decide) ?_
    have n0 : ∀ j, j < 9 → ¬ wh = nI j := fun j hj e => by rw [e] at q; exact absurd q (nI_pos (by omega))
    exact fin2 (by rw [mCount, if_neg (show ¬ wh = 0 from n0 0 (by decide)), if_neg (show ¬ wh = 1 from n0 1 (by decide)), if_neg (show ¬ wh = 2 from n0 2 (by decide)), if_neg (show ¬ wh = 3 from n0 3 (by decide)), if_neg (show ¬ wh = 4 from n0 4 (by decide)), if_neg (show ¬ wh = 5 from n0 5 (by decide)), if_neg (show ¬ wh = 6 from n0 6 (by decide)), if_neg (show ¬ wh = 7 from n0 7 (by decide)), if_neg (show ¬ wh = 8 from n0 8 (by decide))]; try rfl) hw1
  · refine V_tableOut 156 dX8_count_8 (Or.inr (by rw [Int32.le_iff_toInt_le, nI_toInt (by decide)] at q; omega)) (by decide) ?_
    refine V_iconst (v := -1) dX8_count_156 (by decide) ?_
    refine V_iret dX8_count_157 rfl (by decide) (by decide) ?_
    have n0 : ∀ j, j < 9 → ¬ wh = nI j := fun j hj e => by rw [e] at q; exact absurd (leK (by decide) (by omega) q) (by omega)
    exact fin2 (by rw [mCount, if_neg (show ¬ wh = 0 from n0 0 (by decide)), if_neg (show ¬ wh = 1 from n0 1 (by decide)), if_neg (show ¬ wh = 2 from n0 2 (by decide)), if_neg (show ¬ wh = 3 from n0 3 (by decide)), if_neg (show ¬ wh = 4 from n0 4 (by decide)), if_neg (show ¬ wh = 5 from n0 5 (by decide)), if_neg (show ¬ wh = 6 from n0 6 (by decide)), if_neg (show ¬ wh = 7 from n0 7 (by decide)), if_neg (show ¬ wh = 8 from n0 8 (by decide))]; try rfl) hw1
  · rcases (show j = 0 ∨ j = 1 ∨ j = 2 ∨ j = 3 ∨ j = 4 ∨ j = 5 ∨ j = 6 ∨ j = 7 ∨ j = 8 by omega) with rfl | rfl | rfl | rfl | rfl | rfl | rfl | rfl | rfl
    · refine V_tableIn 60 dX8_count_8 (by decide) (by decide) rfl (by decide) ?_
      refine V_aload_n dX8_count_60 rfl ?_
      refine V_get (25) fl_X8_75 dX8_count_61 hw1.p25 rfl ?_
      refine V_iret dX8_count_64 rfl (by decide) (by decide) ?_
      exact fin2 (by rw [mCount, if_pos (show nI 0 = 0 by decide)]; try rfl) hw1
    · refine V_tableIn 65 dX8_count_8 (by decide) (by decide) rfl (by decide) ?_
      refine V_aload_n dX8_count_65 rfl ?_
      refine V_get (25) fl_X8_97 dX8_count_66 hw1.p25 rfl ?_
      refine V_iret dX8_count_69 rfl (by decide) (by decide) ?_
      exact fin2 (by rw [mCount, if_neg (show ¬ nI 1 = 0 by decide), if_pos (show nI 1 = 1 by decide)]; try rfl) hw1
    · refine V_tableIn 70 dX8_count_8 (by decide) (by decide) rfl (by decide) ?_
      refine V_aload_n dX8_count_70 rfl ?_
      refine V_get (25) fl_X8_100 dX8_count_71 hw1.p25 rfl ?_
      refine V_iret dX8_count_74 rfl (by decide) (by decide) ?_
      exact fin2 (by rw [mCount, if_neg (show ¬ nI 2 = 0 by decide), if_neg (show ¬ nI 2 = 1 by decide), if_pos (show nI 2 = 2 by decide)]; try rfl) hw1
    · refine V_tableIn 75 dX8_count_8 (by decide) (by decide) rfl (by decide) ?_
      refine V_aload_n dX8_count_75 rfl ?_
      refine V_get (25) fl_X8_149 dX8_count_76 hw1.p25 rfl ?_
      refine V_iret dX8_count_79 rfl (by decide) (by decide) ?_
      exact fin2 (by rw [mCount, if_neg (show ¬ nI 3 = 0 by decide), if_neg (show ¬ nI 3 = 1 by decide), if_neg (show ¬ nI 3 = 2 by decide), if_pos (show nI 3 = 3 by decide)]; try rfl) hw1
    · refine V_tableIn 80 dX8_count_8 (by decide) (by decide) rfl (by decide) ?_
      refine V_iconst (v := 0) dX8_count_80 (by decide) ?_
      refine V_istore_n dX8_count_81 (by decide) ?_
      exact lp_X8_count (g := T0 g) hR hR60 (fun w hw => fin2 (by rw [mCount, if_neg (show ¬ nI 4 = 0 by decide), if_neg (show ¬ nI 4 = 1 by decide), if_neg (show ¬ nI 4 = 2 by decide), if_neg (show ¬ nI 4 = 3 by decide), if_pos (show nI 4 = 4 by decide)]; try rfl) hw) _ (nR + 1) 0 _ _ _ (Nat.zero_le _) (by omega) rfl rfl hw1
    · refine V_tableIn 115 dX8_count_8 (by decide) (by decide) rfl (by decide) ?_
      refine V_aload_n dX8_count_115 rfl ?_
      refine V_rdV (25) mw_X8_offered mv_X8_110 dX8_count_116 (ct_X8_offered hw1 hP hP10) hw1.p25 rfl rfl rfl (Nat.le_of_ble_eq_true rfl) (by decide) (by decide) (by decide) (by decide) ?_
      refine V_rdS mw_J6_bitCount_0f7a4 ms_X8_169 dX8_count_119 (ct_bitCount hM) rfl rfl (Nat.le_of_ble_eq_true rfl) (by decide) (by decide) (by decide) (by decide) ?_
      refine V_iret dX8_count_122 rfl (by decide) (by decide) ?_
      exact fin2 (by rw [mCount, if_neg (show ¬ nI 5 = 0 by decide), if_neg (show ¬ nI 5 = 1 by decide), if_neg (show ¬ nI 5 = 2 by decide), if_neg (show ¬ nI 5 = 3 by decide), if_neg (show ¬ nI 5 = 4 by decide), if_pos (show nI 5 = 5 by decide)]; try rfl) hw1
    · refine V_tableIn 123 dX8_count_8 (by decide) (by decide) rfl (by decide) ?_
      refine V_aload_n dX8_count_123 rfl ?_
      refine V_get (25) fl_X8_155 dX8_count_124 hw1.p25 rfl ?_
      refine V_iret dX8_count_127 rfl (by decide) (by decide) ?_
      exact fin2 (by rw [mCount, if_neg (show ¬ nI 6 = 0 by decide), if_neg (show ¬ nI 6 = 1 by decide), if_neg (show ¬ nI 6 = 2 by decide), if_neg (show ¬ nI 6 = 3 by decide), if_neg (show ¬ nI 6 = 4 by decide), if_neg (show ¬ nI 6 = 5 by decide), if_pos (show nI 6 = 6 by decide)]; try rfl) hw1
    · refine V_tableIn 128 dX8_count_8 (by decide) (by decide) rfl (by decide) ?_
      refine V_aload_n dX8_count_128 rfl ?_
      refine V_get (25) fl_X8_78 dX8_count_129 hw1.p25 rfl ?_
      refine V_if_eq 139 dX8_count_132 (by decide) (fun h132 => ?_) (fun h132 => ?_)
      · skip
        refine V_iconst (v := 0) dX8_count_139 (by decide) ?_
        refine V_iret dX8_count_140 rfl (by decide) (by decide) ?_
        exact fin2 (by rw [mCount, if_neg (show ¬ nI 7 = 0 by decide), if_neg (show ¬ nI 7 = 1 by decide), if_neg (show ¬ nI 7 = 2 by decide), if_neg (show ¬ nI 7 = 3 by decide), if_neg (show ¬ nI 7 = 4 by decide), if_neg (show ¬ nI 7 = 5 by decide), if_neg (show ¬ nI 7 = 6 by decide), if_pos (show nI 7 = 7 by decide), if_pos h132]; try rfl) hw1
      · skip
        refine V_iconst (v := 1) dX8_count_135 (by decide) ?_
        refine V_goto 140 dX8_count_136 (by decide) ?_
        refine V_iret dX8_count_140 rfl (by decide) (by decide) ?_
        exact fin2 (by rw [mCount, if_neg (show ¬ nI 7 = 0 by decide), if_neg (show ¬ nI 7 = 1 by decide), if_neg (show ¬ nI 7 = 2 by decide), if_neg (show ¬ nI 7 = 3 by decide), if_neg (show ¬ nI 7 = 4 by decide), if_neg (show ¬ nI 7 = 5 by decide), if_neg (show ¬ nI 7 = 6 by decide), if_pos (show nI 7 = 7 by decide), if_neg h132]; try rfl) hw1
    · refine V_tableIn 141 dX8_count_8 (by decide) (by decide) rfl (by decide) ?_
      refine V_aload_n dX8_count_141 rfl ?_
      refine V_iconst (v := 0) dX8_count_142 (by decide) ?_
      refine V_rdV (25) mw_X8_broken mv_X8_114 dX8_count_143 (ct_X8_broken (g := T0 g) hw1 hN hN30 hok 0) hw1.p25 rfl rfl rfl (Nat.le_of_ble_eq_true rfl) (by decide) (by decide) (by decide) (by decide) ?_
      refine V_iconst (v := -1) dX8_count_146 (by decide) ?_
      refine V_icmp_ne 154 dX8_count_147 (by decide) (fun h147 => ?_) (fun h147 => ?_)
      · skip
        refine V_iconst (v := 0) dX8_count_154 (by decide) ?_
        refine V_iret dX8_count_155 rfl (by decide) (by decide) ?_
        exact fin2 (by rw [mCount, if_neg (show ¬ nI 8 = 0 by decide), if_neg (show ¬ nI 8 = 1 by decide), if_neg (show ¬ nI 8 = 2 by decide), if_neg (show ¬ nI 8 = 3 by decide), if_neg (show ¬ nI 8 = 4 by decide), if_neg (show ¬ nI 8 = 5 by decide), if_neg (show ¬ nI 8 = 6 by decide), if_neg (show ¬ nI 8 = 7 by decide), if_pos (show nI 8 = 8 by decide), if_neg h147]; try rfl) hw1
      · skip
        refine V_iconst (v := 1) dX8_count_150 (by decide) ?_
        refine V_goto 155 dX8_count_151 (by decide) ?_
        refine V_iret dX8_count_155 rfl (by decide) (by decide) ?_
        exact fin2 (by rw [mCount, if_neg (show ¬ nI 8 = 0 by decide), if_neg (show ¬ nI 8 = 1 by decide), if_neg (show ¬ nI 8 = 2 by decide), if_neg (show ¬ nI 8 = 3 by decide), if_neg (show ¬ nI 8 = 4 by decide), if_neg (show ¬ nI 8 = 5 by decide), if_neg (show ¬ nI 8 = 6 by decide), if_neg (show ¬ nI 8 = 7 by decide), if_pos (show nI 8 = 8 by decide), if_pos h147]; try rfl) hw1
end MD3
