/-! ===== TrainDeskModel (25 .. 45), the reference: its reading methods ===== -/
def T0 (g : Nat → Nat → Int32) : Nat → Nat → Int32 := va_up g 25 (upd (g 25) 0 0)
def isInB (v a b : Int32) : Bool := !decide (v < a) && !decide (b < v)
def mIsPt (g : Nat → Nat → Int32) (p : Int32) : Bool := !decide (p < 0) && !decide (g 25 19 ≤ p)
def isOfB (s p : Int32) : Bool := decide ((s >>> (p &&& 31)) &&& 1 = 1)
def mVer (g : Nat → Nat → Int32) (p set : Int32) : Int32 := if isOfB set p = true then g 27 p.toNatClampNeg else g 26 p.toNatClampNeg
def pMB (g : Nat → Nat → Int32) (set : Int32) (k : Nat) : Bool := decide (mVer g (g 31 k) set = g 32 k) && !isInB (mVer g (g 33 k) set) (g 34 k) (g 35 k)
def mBrk (g : Nat → Nat → Int32) (nN : Nat) (set : Int32) : Int32 := fi (pMB g set) nN 0
def pMR (f : Nat → Int32) (set : Int32) (i : Nat) : Bool := decide (f i &&& set = f i)
def mRed (g : Nat → Nat → Int32) (nT : Nat) (set : Int32) : Int32 := fi (pMR (g 36) set) nT 0
def mOff (g : Nat → Nat → Int32) (nP : Nat) : Nat := maskN (g 27) nP
def mGoes (g : Nat → Nat → Int32) (nP nN nT : Nat) (set : Int32) : Bool := decide (set &&& (nI (mOff g nP) ^^^ -1) = 0) && (decide (mBrk g nN set = -1) && decide (mRed g nT set = -1))
def mSum (g : Nat → Nat → Int32) (nP S : Nat) : Int32 := sumI (g 28) S nP
def MNOK (g : Nat → Nat → Int32) (n : Nat) : Prop := ∀ k, k < n → ∃ p o : Nat, p < 10 ∧ o < 10 ∧ g 31 k = nI p ∧ g 33 k = nI o
theorem mIsPt_in {g : Nat → Nat → Int32} {p : Int32} {nP : Nat} (hP : g 25 19 = nI nP) (hP10 : nP ≤ 10) (h : mIsPt g p = true) : ∃ j, j < nP ∧ p = nI j := by
  simp only [mIsPt, Bool.and_eq_true, Bool.not_eq_true', decide_eq_false_iff_not] at h
  rcases pk_ix p (n := nP) (by omega) with q | q | q
  · exact absurd q h.1
  · exact absurd (by rw [hP]; exact q) h.2
  · exact q
theorem isOfB_bit {S p : Nat} (hS : S < 2 ^ 31) (hp : p < 32) : isOfB (nI S) (nI p) = S.testBit p := by
  unfold isOfB
  rw [bitAt hS hp]
  cases S.testBit p <;> decide
section MD1
variable {E : VE} {ad : Nat → Nat} {el : Nat} {g : Nat → Nat → Int32} {w0 ws : va_W}
set_option maxHeartbeats 4000000 in
set_option maxRecDepth 20000 in
theorem ct_X8_thrown (hw : WF E ad el g w0 ws)  : Ct E yX8_thrown cX8_thrown 1 (some (.int)) 0 0 0 [.ref (ad 25)] ws (fun r w => r = some (.int (g 25 0)) ∧ w = ws) := by
  refine Ct_of mw_X8_thrown rfl (Nat.le_of_ble_eq_true rfl) ?_
  refine V_aload_n dX8_thrown_0 rfl ?_
  refine V_get (25) fl_X8_71 dX8_thrown_1 hw.p25 rfl ?_
  refine V_iret dX8_thrown_4 rfl (by decide) (by decide) ?_
  exact ⟨rfl, rfl⟩
set_option maxHeartbeats 4000000 in
set_option maxRecDepth 20000 in
theorem ct_X8_isIn (v a b : Int32) : Ct E yX8_isIn cX8_isIn 3 (some (.boolean)) 0 0 0 [.int v, .int a, .int b] ws (fun r w => r = some (.int (bI (isInB v a b))) ∧ w = ws) := by
  refine Ct_of mw_X8_isIn rfl (Nat.le_of_ble_eq_true rfl) ?_
  refine V_iload_n dX8_isIn_0 rfl ?_
  refine V_iload_n dX8_isIn_1 rfl ?_
  refine V_icmp_lt 14 dX8_isIn_2 (by decide) (fun h2 => ?_) (fun h2 => ?_)
  · skip
    refine V_iconst (v := 0) dX8_isIn_14 (by decide) ?_
    refine V_zret dX8_isIn_15 rfl (by first | exact Or.inl rfl | exact Or.inr rfl) (by decide) (by decide) ?_
    exact ⟨by simp [bI, isInB, h2], rfl⟩
  · skip
    refine V_iload_n dX8_isIn_5 rfl ?_
    refine V_iload_n dX8_isIn_6 rfl ?_
    refine V_icmp_gt 14 dX8_isIn_7 (by decide) (fun h7 => ?_) (fun h7 => ?_)
    · skip
      refine V_iconst (v := 0) dX8_isIn_14 (by decide) ?_
      refine V_zret dX8_isIn_15 rfl (by first | exact Or.inl rfl | exact Or.inr rfl) (by decide) (by decide) ?_
      exact ⟨by simp [bI, isInB, h2, h7], rfl⟩
    · skip
      refine V_iconst (v := 1) dX8_isIn_10 (by decide) ?_
      refine V_goto 15 dX8_isIn_11 (by decide) ?_
      refine V_zret dX8_isIn_15 rfl (by first | exact Or.inl rfl | exact Or.inr rfl) (by decide) (by decide) ?_
      exact ⟨by simp [bI, isInB, h2, h7], rfl⟩
set_option maxHeartbeats 4000000 in
set_option maxRecDepth 20000 in
theorem ct_X8_isPart (hw : WF E ad el g w0 ws) (p : Int32) : Ct E yX8_isPart cX8_isPart 2 (some (.boolean)) 0 0 0 [.ref (ad 25), .int p] ws (fun r w => r = some (.int (bI (mIsPt g p))) ∧ w = ws) := by
  refine Ct_of mw_X8_isPart rfl (Nat.le_of_ble_eq_true rfl) ?_
  refine V_iload_n dX8_isPart_0 rfl ?_
  refine V_if_lt 16 dX8_isPart_1 (by decide) (fun h1 => ?_) (fun h1 => ?_)
  · skip
    refine V_iconst (v := 0) dX8_isPart_16 (by decide) ?_
    refine V_zret dX8_isPart_17 rfl (by first | exact Or.inl rfl | exact Or.inr rfl) (by decide) (by decide) ?_
    exact ⟨by simp [bI, mIsPt, h1], rfl⟩
  · skip
    refine V_iload_n dX8_isPart_4 rfl ?_
    refine V_aload_n dX8_isPart_5 rfl ?_
    refine V_get (25) fl_X8_75 dX8_isPart_6 hw.p25 rfl ?_
    refine V_icmp_ge 16 dX8_isPart_9 (by decide) (fun h9 => ?_) (fun h9 => ?_)
    · skip
      refine V_iconst (v := 0) dX8_isPart_16 (by decide) ?_
      refine V_zret dX8_isPart_17 rfl (by first | exact Or.inl rfl | exact Or.inr rfl) (by decide) (by decide) ?_
      exact ⟨by simp [bI, mIsPt, h1, h9], rfl⟩
    · skip
      refine V_iconst (v := 1) dX8_isPart_12 (by decide) ?_
      refine V_goto 17 dX8_isPart_13 (by decide) ?_
      refine V_zret dX8_isPart_17 rfl (by first | exact Or.inl rfl | exact Or.inr rfl) (by decide) (by decide) ?_
      exact ⟨by simp [bI, mIsPt, h1, h9], rfl⟩
set_option maxHeartbeats 4000000 in
set_option maxRecDepth 20000 in
theorem ct_X8_isOf (s p : Int32) : Ct E yX8_isOf cX8_isOf 2 (some (.boolean)) 0 0 0 [.int s, .int p] ws (fun r w => r = some (.int (bI (isOfB s p))) ∧ w = ws) := by
  refine Ct_of mw_X8_isOf rfl (Nat.le_of_ble_eq_true rfl) ?_
  refine V_iload_n dX8_isOf_0 rfl ?_
  refine V_iload_n dX8_isOf_1 rfl ?_
  refine V_ishr dX8_isOf_2 ?_
  refine V_iconst (v := 1) dX8_isOf_3 (by decide) ?_
  refine V_iand dX8_isOf_4 ?_
  refine V_iconst (v := 1) dX8_isOf_5 (by decide) ?_
  refine V_icmp_ne 13 dX8_isOf_6 (by decide) (fun h6 => ?_) (fun h6 => ?_)
  · skip
    refine V_iconst (v := 0) dX8_isOf_13 (by decide) ?_
    refine V_zret dX8_isOf_14 rfl (by first | exact Or.inl rfl | exact Or.inr rfl) (by decide) (by decide) ?_
    exact ⟨by rw [isOfB, decide_eq_false h6]; rfl, rfl⟩
  · skip
    refine V_iconst (v := 1) dX8_isOf_9 (by decide) ?_
    refine V_goto 14 dX8_isOf_10 (by decide) ?_
    refine V_zret dX8_isOf_14 rfl (by first | exact Or.inl rfl | exact Or.inr rfl) (by decide) (by decide) ?_
    exact ⟨by rw [isOfB, decide_eq_true h6]; rfl, rfl⟩
def mSetB (g : Nat → Nat → Int32) (set : Int32) : Bool := isInB set 0 (((1 : Int32) <<< (g 25 19 &&& 31)) - 1)
set_option maxHeartbeats 4000000 in
set_option maxRecDepth 20000 in
theorem ct_X8_isSet (hw : WF E ad el g w0 ws) (set : Int32) : Ct E yX8_isSet cX8_isSet 2 (some (.boolean)) 1 0 0 [.ref (ad 25), .int set] ws (fun r w => r = some (.int (bI (mSetB g set))) ∧ w = ws) := by
  refine Ct_of mw_X8_isSet rfl (Nat.le_of_ble_eq_true rfl) ?_
  refine V_iload_n dX8_isSet_0 rfl ?_
  refine V_iconst (v := 0) dX8_isSet_1 (by decide) ?_
  refine V_iconst (v := 1) dX8_isSet_2 (by decide) ?_
  refine V_aload_n dX8_isSet_3 rfl ?_
  refine V_get (25) fl_X8_75 dX8_isSet_4 hw.p25 rfl ?_
  refine V_ishl dX8_isSet_7 ?_
  refine V_iconst (v := 1) dX8_isSet_8 (by decide) ?_
  refine V_isub dX8_isSet_9 ?_
  refine V_rdS mw_X8_isIn ms_X8_82 dX8_isSet_10 (ct_X8_isIn _ _ _) rfl rfl (Nat.le_of_ble_eq_true rfl) (by decide) (by decide) (by decide) (by decide) ?_
  refine V_zret dX8_isSet_13 rfl (bI_or _) (by decide) (by decide) ?_
  exact ⟨rfl, rfl⟩
set_option maxHeartbeats 4000000 in
set_option maxRecDepth 20000 in
theorem ct_X8_version (hw : WF E ad el g w0 ws) {p : Int32} (hp : vp_in p 10) (set : Int32) : Ct E yX8_version cX8_version 3 (some (.int)) 1 0 0 [.ref (ad 25), .int p, .int set] ws (fun r w => r = some (.int (mVer g p set)) ∧ w = ws) := by
  refine Ct_of mw_X8_version rfl (Nat.le_of_ble_eq_true rfl) ?_
  refine V_iload_n dX8_version_0 rfl ?_
  refine V_iload_n dX8_version_1 rfl ?_
  refine V_rdS mw_X8_isOf ms_X8_93 dX8_version_2 (ct_X8_isOf set p) rfl rfl (Nat.le_of_ble_eq_true rfl) (by decide) (by decide) (by decide) (by decide) ?_
  refine V_if_eq 17 dX8_version_5 (by decide) (fun h5 => ?_) (fun h5 => ?_)
  · skip
    refine V_aload_n dX8_version_17 rfl ?_
    refine V_get (25) fl_X8_9 dX8_version_18 hw.p25 rfl ?_
    refine V_iload_n dX8_version_21 rfl ?_
    refine V_iald (26) dX8_version_22 hw.p26 hp ?_
    refine V_iret dX8_version_23 rfl (by decide) (by decide) ?_
    exact fin1 (by rw [mVer, if_neg (nb (bI_0 h5))])
  · skip
    refine V_aload_n dX8_version_8 rfl ?_
    refine V_get (25) fl_X8_13 dX8_version_9 hw.p25 rfl ?_
    refine V_iload_n dX8_version_12 rfl ?_
    refine V_iald (27) dX8_version_13 hw.p27 hp ?_
    refine V_goto 23 dX8_version_14 (by decide) ?_
    refine V_iret dX8_version_23 rfl (by decide) (by decide) ?_
    exact fin1 (by rw [mVer, if_pos (bI_1 h5)])
set_option maxHeartbeats 4000000 in
set_option maxRecDepth 20000 in
theorem lp_X8_broken (hw : WF E ad el g w0 ws) {nN : Nat} (hN : g 25 20 = nI nN) (hN30 : nN ≤ 30) (hok : MNOK g nN) (set : Int32) : ∀ (k i : Nat) (x : Int32), i ≤ nN → nN < i + k → x = nI i → mBrk g nN set = fi (pMB g set) (nN - i) i → V E yX8_broken cX8_broken 3 (some (.int)) 2 0 0 (fun r w => r = some (.int (mBrk g nN set)) ∧ w = ws) 2 [some (.ref (ad 25)), some (.int set), some (.int x)] [] ws 0 0 := by
  intro k
  induction k with
  | zero => intro i x h1 h2; exact absurd h2 (by omega)
  | succ k ih =>
    intro i x hil hin hx hinv
    subst hx
    refine V_iload_n dX8_broken_2 rfl ?_
    refine V_aload_n dX8_broken_3 rfl ?_
    refine V_get (25) fl_X8_97 dX8_broken_4 hw.p25 rfl ?_
    refine V_icmp_ge 67 dX8_broken_7 (by decide) (fun h7 => ?_) (fun h7 => ?_)
    · skip
      refine V_iconst (v := -1) dX8_broken_67 (by decide) ?_
      refine V_iret dX8_broken_68 rfl (by decide) (by decide) ?_
      have hi := leK (a := nN) (b := i) (by omega) (by omega) (by rw [← hN]; exact h7)
      exact ⟨by rw [hinv, fi_end hi], rfl⟩
    · skip
      have hi := nleK (a := nN) (b := i) (by omega) (by omega) (by rw [← hN]; exact h7)
      obtain ⟨p, o, hp, ho, ep, eo⟩ := hok i hi
      refine V_aload_n dX8_broken_10 rfl ?_
      refine V_aload_n dX8_broken_11 rfl ?_
      refine V_get (25) fl_X8_25 dX8_broken_12 hw.p25 rfl ?_
      refine V_iload_n dX8_broken_15 rfl ?_
      refine V_ialdN (31) dX8_broken_16 hw.p31 (by omega) (by first | decide | omega) ?_
      refine V_iload_n dX8_broken_17 rfl ?_
      refine V_rdV (25) mw_X8_version mv_X8_106 dX8_broken_18 (ct_X8_version hw (p := g 31 i) (by rw [ep]; exact vp_in_nI hp (by decide)) set) hw.p25 rfl rfl rfl (Nat.le_of_ble_eq_true rfl) (by decide) (by decide) (by decide) (by decide) ?_
      refine V_aload_n dX8_broken_21 rfl ?_
      refine V_get (25) fl_X8_28 dX8_broken_22 hw.p25 rfl ?_
      refine V_iload_n dX8_broken_25 rfl ?_
      refine V_ialdN (32) dX8_broken_26 hw.p32 (by omega) (by first | decide | omega) ?_
      refine V_icmp_ne 61 dX8_broken_27 (by decide) (fun h27 => ?_) (fun h27 => ?_)
      · skip
        refine V_iinc dX8_broken_61 rfl rfl (by decide) ?_
        refine V_goto 2 dX8_broken_64 (by decide) ?_
        exact ih (i + 1) _ (by omega) (by omega) (nI_1 i) (by rw [hinv, fi_step hi, if_neg (by simp [pMB, h27])])
      · skip
        refine V_aload_n dX8_broken_30 rfl ?_
        refine V_aload_n dX8_broken_31 rfl ?_
        refine V_get (25) fl_X8_31 dX8_broken_32 hw.p25 rfl ?_
        refine V_iload_n dX8_broken_35 rfl ?_
        refine V_ialdN (33) dX8_broken_36 hw.p33 (by omega) (by first | decide | omega) ?_
        refine V_iload_n dX8_broken_37 rfl ?_
        refine V_rdV (25) mw_X8_version mv_X8_106 dX8_broken_38 (ct_X8_version hw (p := g 33 i) (by rw [eo]; exact vp_in_nI ho (by decide)) set) hw.p25 rfl rfl rfl (Nat.le_of_ble_eq_true rfl) (by decide) (by decide) (by decide) (by decide) ?_
        refine V_aload_n dX8_broken_41 rfl ?_
        refine V_get (25) fl_X8_34 dX8_broken_42 hw.p25 rfl ?_
        refine V_iload_n dX8_broken_45 rfl ?_
        refine V_ialdN (34) dX8_broken_46 hw.p34 (by omega) (by first | decide | omega) ?_
        refine V_aload_n dX8_broken_47 rfl ?_
        refine V_get (25) fl_X8_37 dX8_broken_48 hw.p25 rfl ?_
        refine V_iload_n dX8_broken_51 rfl ?_
        refine V_ialdN (35) dX8_broken_52 hw.p35 (by omega) (by first | decide | omega) ?_
        refine V_rdS mw_X8_isIn ms_X8_82 dX8_broken_53 (ct_X8_isIn _ _ _) rfl rfl (Nat.le_of_ble_eq_true rfl) (by decide) (by decide) (by decide) (by decide) ?_
        refine V_if_ne 61 dX8_broken_56 (by decide) (fun h56 => ?_) (fun h56 => ?_)
        · skip
          refine V_iinc dX8_broken_61 rfl rfl (by decide) ?_
          refine V_goto 2 dX8_broken_64 (by decide) ?_
          exact ih (i + 1) _ (by omega) (by omega) (nI_1 i) (by rw [hinv, fi_step hi, if_neg (by simp [pMB, bI_1 h56])])
        · skip
          refine V_iload_n dX8_broken_59 rfl ?_
          refine V_iret dX8_broken_60 rfl (by decide) (by decide) ?_
          exact ⟨by rw [hinv, fi_step hi, if_pos (by simp [pMB, h27, bI_0 h56])], rfl⟩
set_option maxHeartbeats 4000000 in
set_option maxRecDepth 20000 in
theorem ct_X8_broken (hw : WF E ad el g w0 ws) {nN : Nat} (hN : g 25 20 = nI nN) (hN30 : nN ≤ 30) (hok : MNOK g nN) (set : Int32) : Ct E yX8_broken cX8_broken 3 (some (.int)) 2 0 0 [.ref (ad 25), .int set] ws (fun r w => r = some (.int (mBrk g nN set)) ∧ w = ws) := by
  refine Ct_of mw_X8_broken rfl (Nat.le_of_ble_eq_true rfl) ?_
  refine V_iconst (v := 0) dX8_broken_0 (by decide) ?_
  refine V_istore_n dX8_broken_1 (by decide) ?_
  exact lp_X8_broken hw hN hN30 hok set (nN + 1) 0 _ (Nat.zero_le _) (by omega) rfl rfl
set_option maxHeartbeats 4000000 in
set_option maxRecDepth 20000 in
theorem lp_X8_redOf (hw : WF E ad el g w0 ws) {nT : Nat} (hT : g 25 21 = nI nT) (hT12 : nT ≤ 12) (set : Int32) : ∀ (k i : Nat) (x : Int32), i ≤ nT → nT < i + k → x = nI i → mRed g nT set = fi (pMR (g 36) set) (nT - i) i → V E yX8_redOf cX8_redOf 3 (some (.int)) 0 0 0 (fun r w => r = some (.int (mRed g nT set)) ∧ w = ws) 2 [some (.ref (ad 25)), some (.int set), some (.int x)] [] ws 0 0 := by
  intro k
  induction k with
  | zero => intro i x h1 h2; exact absurd h2 (by omega)
  | succ k ih =>
    intro i x hil hin hx hinv
    subst hx
    refine V_iload_n dX8_redOf_2 rfl ?_
    refine V_aload_n dX8_redOf_3 rfl ?_
    refine V_get (25) fl_X8_100 dX8_redOf_4 hw.p25 rfl ?_
    refine V_icmp_ge 35 dX8_redOf_7 (by decide) (fun h7 => ?_) (fun h7 => ?_)
    · skip
      refine V_iconst (v := -1) dX8_redOf_35 (by decide) ?_
      refine V_iret dX8_redOf_36 rfl (by decide) (by decide) ?_
      have hi := leK (a := nT) (b := i) (by omega) (by omega) (by rw [← hT]; exact h7)
      exact ⟨by rw [hinv, fi_end hi], rfl⟩
    · skip
      have hi := nleK (a := nT) (b := i) (by omega) (by omega) (by rw [← hT]; exact h7)
      refine V_aload_n dX8_redOf_10 rfl ?_
      refine V_get (25) fl_X8_40 dX8_redOf_11 hw.p25 rfl ?_
      refine V_iload_n dX8_redOf_14 rfl ?_
      refine V_ialdN (36) dX8_redOf_15 hw.p36 (by omega) (by first | decide | omega) ?_
      refine V_iload_n dX8_redOf_16 rfl ?_
      refine V_iand dX8_redOf_17 ?_
      refine V_aload_n dX8_redOf_18 rfl ?_
      refine V_get (25) fl_X8_40 dX8_redOf_19 hw.p25 rfl ?_
      refine V_iload_n dX8_redOf_22 rfl ?_
      refine V_ialdN (36) dX8_redOf_23 hw.p36 (by omega) (by first | decide | omega) ?_
      refine V_icmp_ne 29 dX8_redOf_24 (by decide) (fun h24 => ?_) (fun h24 => ?_)
      · skip
        refine V_iinc dX8_redOf_29 rfl rfl (by decide) ?_
        refine V_goto 2 dX8_redOf_32 (by decide) ?_
        exact ih (i + 1) _ (by omega) (by omega) (nI_1 i) (by rw [hinv, fi_step hi, if_neg (by rw [pMR, decide_eq_true_eq]; exact h24)])
      · skip
        refine V_iload_n dX8_redOf_27 rfl ?_
        refine V_iret dX8_redOf_28 rfl (by decide) (by decide) ?_
        exact ⟨by rw [hinv, fi_step hi, if_pos (by rw [pMR, decide_eq_true_eq]; exact h24)], rfl⟩
set_option maxHeartbeats 4000000 in
set_option maxRecDepth 20000 in
theorem ct_X8_redOf (hw : WF E ad el g w0 ws) {nT : Nat} (hT : g 25 21 = nI nT) (hT12 : nT ≤ 12) (set : Int32) : Ct E yX8_redOf cX8_redOf 3 (some (.int)) 0 0 0 [.ref (ad 25), .int set] ws (fun r w => r = some (.int (mRed g nT set)) ∧ w = ws) := by
  refine Ct_of mw_X8_redOf rfl (Nat.le_of_ble_eq_true rfl) ?_
  refine V_iconst (v := 0) dX8_redOf_0 (by decide) ?_
  refine V_istore_n dX8_redOf_1 (by decide) ?_
  exact lp_X8_redOf hw hT hT12 set (nT + 1) 0 _ (Nat.zero_le _) (by omega) rfl rfl
set_option maxHeartbeats 4000000 in
set_option maxRecDepth 20000 in
theorem lp_X8_offered (hw : WF E ad el g w0 ws) {nP : Nat} (hP : g 25 19 = nI nP) (hP10 : nP ≤ 10) : ∀ (k p : Nat) (m x : Int32), p ≤ nP → nP < p + k → m = nI (maskN (g 27) p) → x = nI p → V E yX8_offered cX8_offered 3 (some (.int)) 0 0 0 (fun r w => r = some (.int (nI (mOff g nP))) ∧ w = ws) 4 [some (.ref (ad 25)), some (.int m), some (.int x)] [] ws 0 0 := by
  intro k
  induction k with
  | zero => intro p m x h1 h2; exact absurd h2 (by omega)
  | succ k ih =>
    intro p m x hpl hpn hm hx
    subst hm hx
    refine V_iload_n dX8_offered_4 rfl ?_
    refine V_aload_n dX8_offered_5 rfl ?_
    refine V_get (25) fl_X8_75 dX8_offered_6 hw.p25 rfl ?_
    refine V_icmp_ge 38 dX8_offered_9 (by decide) (fun h9 => ?_) (fun h9 => ?_)
    · skip
      refine V_iload_n dX8_offered_38 rfl ?_
      refine V_iret dX8_offered_39 rfl (by decide) (by decide) ?_
      have hp : p = nP := by have := leK (a := nP) (b := p) (by omega) (by omega) (by rw [← hP]; exact h9); omega
      subst hp
      exact ⟨rfl, rfl⟩
    · skip
      have hp := nleK (a := nP) (b := p) (by omega) (by omega) (by rw [← hP]; exact h9)
      refine V_iload_n dX8_offered_12 rfl ?_
      refine V_aload_n dX8_offered_13 rfl ?_
      refine V_get (25) fl_X8_13 dX8_offered_14 hw.p25 rfl ?_
      refine V_iload_n dX8_offered_17 rfl ?_
      refine V_ialdN (27) dX8_offered_18 hw.p27 (by omega) (by first | decide | omega) ?_
      refine V_iconst (v := -1) dX8_offered_19 (by decide) ?_
      refine V_icmp_eq 29 dX8_offered_20 (by decide) (fun h20 => ?_) (fun h20 => ?_)
      · skip
        refine V_iconst (v := 0) dX8_offered_29 (by decide) ?_
        refine V_ior dX8_offered_30 ?_
        refine V_istore_n dX8_offered_31 (by decide) ?_
        refine V_iinc dX8_offered_32 rfl rfl (by decide) ?_
        refine V_goto 4 dX8_offered_35 (by decide) ?_
        exact ih (p + 1) _ _ (by omega) (by omega) (by rw [maskN, if_pos h20]; exact (nx_or _ 0).trans (by rw [Nat.or_zero])) (nI_1 p)
      · skip
        refine V_iconst (v := 1) dX8_offered_23 (by decide) ?_
        refine V_iload_n dX8_offered_24 rfl ?_
        refine V_ishl dX8_offered_25 ?_
        refine V_goto 30 dX8_offered_26 (by decide) ?_
        refine V_ior dX8_offered_30 ?_
        refine V_istore_n dX8_offered_31 (by decide) ?_
        refine V_iinc dX8_offered_32 rfl rfl (by decide) ?_
        refine V_goto 4 dX8_offered_35 (by decide) ?_
        exact ih (p + 1) _ _ (by omega) (by omega) (by rw [maskN, if_neg h20, shl1 p (by omega), nx_or]) (nI_1 p)
set_option maxHeartbeats 4000000 in
set_option maxRecDepth 20000 in
theorem ct_X8_offered (hw : WF E ad el g w0 ws) {nP : Nat} (hP : g 25 19 = nI nP) (hP10 : nP ≤ 10) : Ct E yX8_offered cX8_offered 3 (some (.int)) 0 0 0 [.ref (ad 25)] ws (fun r w => r = some (.int (nI (mOff g nP))) ∧ w = ws) := by
  refine Ct_of mw_X8_offered rfl (Nat.le_of_ble_eq_true rfl) ?_
  refine V_iconst (v := 0) dX8_offered_0 (by decide) ?_
  refine V_istore_n dX8_offered_1 (by decide) ?_
  refine V_iconst (v := 0) dX8_offered_2 (by decide) ?_
  refine V_istore_n dX8_offered_3 (by decide) ?_
  exact lp_X8_offered hw hP hP10 (nP + 1) 0 _ _ (Nat.zero_le _) (by omega) rfl rfl
set_option maxHeartbeats 4000000 in
set_option maxRecDepth 20000 in
theorem lp_X8_worthOf (hw : WF E ad el g w0 ws) {nP : Nat} (hP : g 25 19 = nI nP) (hP10 : nP ≤ 10) {S : Nat} (hS : S < 1024) : ∀ (k p : Nat) (m x : Int32), p ≤ nP → nP < p + k → m = sumI (g 28) S p → x = nI p → V E yX8_worthOf cX8_worthOf 4 (some (.int)) 1 0 0 (fun r w => r = some (.int (mSum g nP S)) ∧ w = ws) 4 [some (.ref (ad 25)), some (.int (nI S)), some (.int m), some (.int x)] [] ws 0 0 := by
  intro k
  induction k with
  | zero => intro p m x h1 h2; exact absurd h2 (by omega)
  | succ k ih =>
    intro p m x hpl hpn hm hx
    subst hm hx
    refine V_iload_n dX8_worthOf_4 rfl ?_
    refine V_aload_n dX8_worthOf_5 rfl ?_
    refine V_get (25) fl_X8_75 dX8_worthOf_6 hw.p25 rfl ?_
    refine V_icmp_ge 39 dX8_worthOf_9 (by decide) (fun h9 => ?_) (fun h9 => ?_)
    · skip
      refine V_iload_n dX8_worthOf_39 rfl ?_
      refine V_iret dX8_worthOf_40 rfl (by decide) (by decide) ?_
      have hp : p = nP := by have := leK (a := nP) (b := p) (by omega) (by omega) (by rw [← hP]; exact h9); omega
      subst hp
      exact ⟨rfl, rfl⟩
    · skip
      have hp := nleK (a := nP) (b := p) (by omega) (by omega) (by rw [← hP]; exact h9)
      refine V_iload_n dX8_worthOf_12 rfl ?_
      refine V_iload_n dX8_worthOf_13 rfl ?_
      refine V_iload_n dX8_worthOf_14 rfl ?_
      refine V_rdS mw_X8_isOf ms_X8_93 dX8_worthOf_15 (ct_X8_isOf _ _) rfl rfl (Nat.le_of_ble_eq_true rfl) (by decide) (by decide) (by decide) (by decide) ?_
      refine V_if_eq 30 dX8_worthOf_18 (by decide) (fun h18 => ?_) (fun h18 => ?_)
      · skip
        refine V_iconst (v := 0) dX8_worthOf_30 (by decide) ?_
        refine V_iadd dX8_worthOf_31 ?_
        refine V_istore_n dX8_worthOf_32 (by decide) ?_
        refine V_iinc dX8_worthOf_33 rfl rfl (by decide) ?_
        refine V_goto 4 dX8_worthOf_36 (by decide) ?_
        have hb := bI_0 h18
        rw [isOfB_bit (by omega) (by omega)] at hb
        exact ih (p + 1) _ _ (by omega) (by omega) (by rw [sumI, if_neg (nb hb)]; exact Int32.add_zero _) (nI_1 p)
      · skip
        refine V_aload_n dX8_worthOf_21 rfl ?_
        refine V_get (25) fl_X8_16 dX8_worthOf_22 hw.p25 rfl ?_
        refine V_iload_n dX8_worthOf_25 rfl ?_
        refine V_ialdN (28) dX8_worthOf_26 hw.p28 (by omega) (by first | decide | omega) ?_
        refine V_goto 31 dX8_worthOf_27 (by decide) ?_
        refine V_iadd dX8_worthOf_31 ?_
        refine V_istore_n dX8_worthOf_32 (by decide) ?_
        refine V_iinc dX8_worthOf_33 rfl rfl (by decide) ?_
        refine V_goto 4 dX8_worthOf_36 (by decide) ?_
        have hb := bI_1 h18
        rw [isOfB_bit (by omega) (by omega)] at hb
        exact ih (p + 1) _ _ (by omega) (by omega) (by rw [sumI, if_pos hb]) (nI_1 p)
set_option maxHeartbeats 4000000 in
set_option maxRecDepth 20000 in
theorem ct_X8_worthOf (hw : WF E ad el g w0 ws) {nP : Nat} (hP : g 25 19 = nI nP) (hP10 : nP ≤ 10) {S : Nat} (hS : S < 1024) : Ct E yX8_worthOf cX8_worthOf 4 (some (.int)) 1 0 0 [.ref (ad 25), .int (nI S)] ws (fun r w => r = some (.int (mSum g nP S)) ∧ w = ws) := by
  refine Ct_of mw_X8_worthOf rfl (Nat.le_of_ble_eq_true rfl) ?_
  refine V_iconst (v := 0) dX8_worthOf_0 (by decide) ?_
  refine V_istore_n dX8_worthOf_1 (by decide) ?_
  refine V_iconst (v := 0) dX8_worthOf_2 (by decide) ?_
  refine V_istore_n dX8_worthOf_3 (by decide) ?_
  exact lp_X8_worthOf hw hP hP10 hS (nP + 1) 0 _ _ (Nat.zero_le _) (by omega) rfl rfl
set_option maxHeartbeats 4000000 in
set_option maxRecDepth 20000 in
theorem ct_X8_goes (hw : WF E ad el g w0 ws) {nP : Nat} (hP : g 25 19 = nI nP) (hP10 : nP ≤ 10) {nN : Nat} (hN : g 25 20 = nI nN) (hN30 : nN ≤ 30) (hok : MNOK g nN) {nT : Nat} (hT : g 25 21 = nI nT) (hT12 : nT ≤ 12) (set : Int32) : Ct E yX8_goes cX8_goes 2 (some (.boolean)) 3 0 0 [.ref (ad 25), .int set] ws (fun r w => r = some (.int (bI (mGoes g nP nN nT set))) ∧ w = ws) := by
  refine Ct_of mw_X8_goes rfl (Nat.le_of_ble_eq_true rfl) ?_
  refine V_iload_n dX8_goes_0 rfl ?_
  refine V_aload_n dX8_goes_1 rfl ?_
  refine V_rdV (25) mw_X8_offered mv_X8_110 dX8_goes_2 (ct_X8_offered hw hP hP10) hw.p25 rfl rfl rfl (Nat.le_of_ble_eq_true rfl) (by decide) (by decide) (by decide) (by decide) ?_
  refine V_iconst (v := -1) dX8_goes_5 (by decide) ?_
  refine V_ixor dX8_goes_6 ?_
  refine V_iand dX8_goes_7 ?_
  refine V_if_ne 33 dX8_goes_8 (by decide) (fun h8 => ?_) (fun h8 => ?_)
  · skip
    refine V_iconst (v := 0) dX8_goes_33 (by decide) ?_
    refine V_zret dX8_goes_34 rfl (by first | exact Or.inl rfl | exact Or.inr rfl) (by decide) (by decide) ?_
    exact ⟨by rw [mGoes, decide_eq_false h8]; rfl, rfl⟩
  · skip
    refine V_aload_n dX8_goes_11 rfl ?_
    refine V_iload_n dX8_goes_12 rfl ?_
    refine V_rdV (25) mw_X8_broken mv_X8_114 dX8_goes_13 (ct_X8_broken hw hN hN30 hok set) hw.p25 rfl rfl rfl (Nat.le_of_ble_eq_true rfl) (by decide) (by decide) (by decide) (by decide) ?_
    refine V_iconst (v := -1) dX8_goes_16 (by decide) ?_
    refine V_icmp_ne 33 dX8_goes_17 (by decide) (fun h17 => ?_) (fun h17 => ?_)
    · skip
      refine V_iconst (v := 0) dX8_goes_33 (by decide) ?_
      refine V_zret dX8_goes_34 rfl (by first | exact Or.inl rfl | exact Or.inr rfl) (by decide) (by decide) ?_
      exact ⟨by rw [mGoes, decide_eq_true h8, decide_eq_false h17]; rfl, rfl⟩
    · skip
      refine V_aload_n dX8_goes_20 rfl ?_
      refine V_iload_n dX8_goes_21 rfl ?_
      refine V_rdV (25) mw_X8_redOf mv_X8_118 dX8_goes_22 (ct_X8_redOf hw hT hT12 set) hw.p25 rfl rfl rfl (Nat.le_of_ble_eq_true rfl) (by decide) (by decide) (by decide) (by decide) ?_
      refine V_iconst (v := -1) dX8_goes_25 (by decide) ?_
      refine V_icmp_ne 33 dX8_goes_26 (by decide) (fun h26 => ?_) (fun h26 => ?_)
      · skip
        refine V_iconst (v := 0) dX8_goes_33 (by decide) ?_
        refine V_zret dX8_goes_34 rfl (by first | exact Or.inl rfl | exact Or.inr rfl) (by decide) (by decide) ?_
        exact ⟨by rw [mGoes, decide_eq_true h8, decide_eq_true h17, decide_eq_false h26]; rfl, rfl⟩
      · skip
        refine V_iconst (v := 1) dX8_goes_29 (by decide) ?_
        refine V_goto 34 dX8_goes_30 (by decide) ?_
        refine V_zret dX8_goes_34 rfl (by first | exact Or.inl rfl | exact Or.inr rfl) (by decide) (by decide) ?_
        exact ⟨by rw [mGoes, decide_eq_true h8, decide_eq_true h17, decide_eq_true h26]; rfl, rfl⟩
/-- of two sets: is s better than b -/
def mBet (g : Nat → Nat → Int32) (nP s : Nat) (b : Option Nat) : Bool := match b with
  | none => true
  | some b => !decide (mSum g nP s ≤ mSum g nP b) || (decide (mSum g nP s = mSum g nP b) && lowerB (nI s) (nI b))
def mCand (g : Nat → Nat → Int32) (nP nN nT U M s : Nat) (b : Option Nat) : Bool := decide (s &&& U = U) && (decide (dif s M = 0) && (mGoes g nP nN nT (nI s) && mBet g nP s b))
def mbL (g : Nat → Nat → Int32) (nP nN nT U M : Nat) : Nat → Nat → Option Nat → Option Nat
  | 0, _, b => b
  | k + 1, s, b => mbL g nP nN nT U M k (s + 1) (if mCand g nP nN nT U M s b = true then some s else b)
def mBest (g : Nat → Nat → Int32) (nP nN nT U M : Nat) : Option Nat := mbL g nP nN nT U M (2 ^ nP) 0 none
theorem mbL_step {g : Nat → Nat → Int32} {nP nN nT U M n s : Nat} {b : Option Nat} (h : s < n) : mbL g nP nN nT U M (n - s) s b = mbL g nP nN nT U M (n - (s + 1)) (s + 1) (if mCand g nP nN nT U M s b = true then some s else b) := by rw [show n - s = (n - (s + 1)) + 1 by omega, mbL]
set_option maxHeartbeats 4000000 in
set_option maxRecDepth 20000 in
theorem lp_X8_best (hw : WF E ad el g w0 ws) {nP : Nat} (hP : g 25 19 = nI nP) (hP10 : nP ≤ 10) {nN : Nat} (hN : g 25 20 = nI nN) (hN30 : nN ≤ 30) (hok : MNOK g nN) {nT : Nat} (hT : g 25 21 = nI nT) (hT12 : nT ≤ 12) {U M : Nat} (hU : U < 1024) (hM : M < 1024) : ∀ (k s : Nat) (b : Option Nat) (xb x : Int32) (z5 : Option Value), s ≤ 2 ^ nP → 2 ^ nP < s + k → xb = sI b → x = nI s → (∀ z, b = some z → z < 1024) → mBest g nP nN nT U M = mbL g nP nN nT U M (2 ^ nP - s) s b → V E yX8_best cX8_best 6 (some (.int)) 4 0 0 (fun r w => r = some (.int (sI (mBest g nP nN nT U M))) ∧ w = ws) 5 [some (.ref (ad 25)), some (.int (nI U)), some (.int (nI M)), some (.int xb), some (.int x), z5] [] ws 0 0 := by
  have hpw : 2 ^ nP ≤ 2 ^ 10 := Nat.pow_le_pow_right (by decide) hP10
  intro k
  induction k with
  | zero => intro s b xb x z5 h1 h2; exact absurd h2 (by omega)
  | succ k ih =>
    intro s b xb x z5 hsl hsn hxb hx hb hinv
    subst hxb hx
    refine V_iload dX8_best_5 rfl ?_
    refine V_iconst (v := 1) dX8_best_7 (by decide) ?_
    refine V_aload_n dX8_best_8 rfl ?_
    refine V_get (25) fl_X8_75 dX8_best_9 hw.p25 rfl ?_
    refine V_ishl dX8_best_12 ?_
    rw [hP, shl1 nP (by omega)]
    refine V_icmp_ge 113 dX8_best_13 (by decide) (fun h13 => ?_) (fun h13 => ?_)
    · skip
      refine V_iload_n dX8_best_113 rfl ?_
      refine V_iret dX8_best_114 rfl (by decide) (by decide) ?_
      have hs : s = 2 ^ nP := by have := leK (a := 2 ^ nP) (b := s) (by omega) (by omega) h13; omega
      subst hs
      exact ⟨by rw [hinv, Nat.sub_self, mbL], rfl⟩
    · skip
      have hs := nleK (a := 2 ^ nP) (b := s) (by omega) (by omega) h13
      refine V_iload dX8_best_16 rfl ?_
      refine V_iload_n dX8_best_18 rfl ?_
      refine V_iand dX8_best_19 ?_
      refine V_iload_n dX8_best_20 rfl ?_
      refine V_icmp_ne 107 dX8_best_21 (by decide) (fun h21 => ?_) (fun h21 => ?_)
      · skip
        refine V_iinc dX8_best_107 rfl rfl (by decide) ?_
        refine V_goto 5 dX8_best_110 (by decide) ?_
        have q1 : ¬ s &&& U = U := fun z => h21 (by rw [nx_and, z])
        have c : mCand g nP nN nT U M s b = false := by simp [mCand, mBet, q1]
        exact ih (s + 1) b _ _ _ (by omega) (by omega) rfl (nI_1 s) hb (by rw [hinv, mbL_step hs, if_neg (nb c)])
      · skip
        refine V_iload dX8_best_24 rfl ?_
        refine V_iload_n dX8_best_26 rfl ?_
        refine V_iconst (v := -1) dX8_best_27 (by decide) ?_
        refine V_ixor dX8_best_28 ?_
        refine V_iand dX8_best_29 ?_
        refine V_if_ne 107 dX8_best_30 (by decide) (fun h30 => ?_) (fun h30 => ?_)
        · skip
          refine V_iinc dX8_best_107 rfl rfl (by decide) ?_
          refine V_goto 5 dX8_best_110 (by decide) ?_
          have q1 : s &&& U = U := nI_inj1024 (Nat.lt_of_le_of_lt Nat.and_le_left (by omega)) hU (by rw [← nx_and]; exact h21)
          have q2 : ¬ dif s M = 0 := fun z => h30 (by rw [nx_dif, z]; rfl)
          have c : mCand g nP nN nT U M s b = false := by simp [mCand, mBet, q1, q2]
          exact ih (s + 1) b _ _ _ (by omega) (by omega) rfl (nI_1 s) hb (by rw [hinv, mbL_step hs, if_neg (nb c)])
        · skip
          refine V_aload_n dX8_best_33 rfl ?_
          refine V_iload dX8_best_34 rfl ?_
          refine V_rdV (25) mw_X8_goes mv_X8_121 dX8_best_36 (ct_X8_goes hw hP hP10 hN hN30 hok hT hT12 _) hw.p25 rfl rfl rfl (Nat.le_of_ble_eq_true rfl) (by decide) (by decide) (by decide) (by decide) ?_
          refine V_if_ne 45 dX8_best_39 (by decide) (fun h39 => ?_) (fun h39 => ?_)
          · skip
            refine V_iload_n dX8_best_45 rfl ?_
            refine V_iconst (v := -1) dX8_best_46 (by decide) ?_
            refine V_icmp_eq 64 dX8_best_47 (by decide) (fun h47 => ?_) (fun h47 => ?_)
            · skip
              refine V_iload dX8_best_64 rfl ?_
              refine V_istore_n dX8_best_66 (by decide) ?_
              refine V_goto 107 dX8_best_67 (by decide) ?_
              refine V_iinc dX8_best_107 rfl rfl (by decide) ?_
              refine V_goto 5 dX8_best_110 (by decide) ?_
              have q1 : s &&& U = U := nI_inj1024 (Nat.lt_of_le_of_lt Nat.and_le_left (by omega)) hU (by rw [← nx_and]; exact h21)
              have q2 : dif s M = 0 := nI_inj1024 (dif_lt (by omega)) (by decide) (by rw [← nx_dif]; exact h30)
              have q3 := bI_1 h39
              have hz : b = none := by
                cases b with
                | none => rfl
                | some b0 => exact absurd h47 (nI_ne_m1 (by have := hb b0 rfl; omega))
              subst hz
              have c : mCand g nP nN nT U M s none = true := by simp [mCand, mBet, q1, q2, q3]
              exact ih (s + 1) (some s) _ _ _ (by omega) (by omega) rfl (nI_1 s) (fun z h => by cases h; omega) (by rw [hinv, mbL_step hs, if_pos c])
            · skip
              obtain ⟨b0, rfl⟩ : ∃ b0, b = some b0 := by
                cases b with
                | none => exact absurd rfl h47
                | some b0 => exact ⟨b0, rfl⟩
              have hb0 := hb b0 rfl
              have hwb : ∀ {w : va_W} {v : va_W}, WF E ad el g v w → Ct E yX8_worthOf cX8_worthOf 4 (some (.int)) 1 0 0 [.ref (ad 25), .int (sI (some b0))] w (fun r w9 => r = some (.int (mSum g nP b0)) ∧ w9 = w) := fun hw => ct_X8_worthOf hw hP hP10 hb0
              refine V_aload_n dX8_best_50 rfl ?_
              refine V_iload dX8_best_51 rfl ?_
              refine V_rdV (25) mw_X8_worthOf mv_X8_124 dX8_best_53 (ct_X8_worthOf hw hP hP10 (S := s) (by omega)) hw.p25 rfl rfl rfl (Nat.le_of_ble_eq_true rfl) (by decide) (by decide) (by decide) (by decide) ?_
              refine V_aload_n dX8_best_56 rfl ?_
              refine V_iload_n dX8_best_57 rfl ?_
              refine V_rdV (25) mw_X8_worthOf mv_X8_124 dX8_best_58 (hwb hw) hw.p25 rfl rfl rfl (Nat.le_of_ble_eq_true rfl) (by decide) (by decide) (by decide) (by decide) ?_
              refine V_icmp_le 70 dX8_best_61 (by decide) (fun h61 => ?_) (fun h61 => ?_)
              · skip
                refine V_iload dX8_best_70 rfl ?_
                refine V_iload_n dX8_best_72 rfl ?_
                refine V_ixor dX8_best_73 ?_
                refine V_iload dX8_best_74 rfl ?_
                refine V_iload_n dX8_best_76 rfl ?_
                refine V_ixor dX8_best_77 ?_
                refine V_ineg dX8_best_78 ?_
                refine V_iand dX8_best_79 ?_
                refine V_istore dX8_best_80 (by decide) ?_
                refine V_aload_n dX8_best_82 rfl ?_
                refine V_iload dX8_best_83 rfl ?_
                refine V_rdV (25) mw_X8_worthOf mv_X8_124 dX8_best_85 (ct_X8_worthOf hw hP hP10 (S := s) (by omega)) hw.p25 rfl rfl rfl (Nat.le_of_ble_eq_true rfl) (by decide) (by decide) (by decide) (by decide) ?_
                refine V_aload_n dX8_best_88 rfl ?_
                refine V_iload_n dX8_best_89 rfl ?_
                refine V_rdV (25) mw_X8_worthOf mv_X8_124 dX8_best_90 (hwb hw) hw.p25 rfl rfl rfl (Nat.le_of_ble_eq_true rfl) (by decide) (by decide) (by decide) (by decide) ?_
                refine V_icmp_ne 107 dX8_best_93 (by decide) (fun h93 => ?_) (fun h93 => ?_)
                · skip
                  refine V_iinc dX8_best_107 rfl rfl (by decide) ?_
                  refine V_goto 5 dX8_best_110 (by decide) ?_
                  have q1 : s &&& U = U := nI_inj1024 (Nat.lt_of_le_of_lt Nat.and_le_left (by omega)) hU (by rw [← nx_and]; exact h21)
                  have q2 : dif s M = 0 := nI_inj1024 (dif_lt (by omega)) (by decide) (by rw [← nx_dif]; exact h30)
                  have q3 := bI_1 h39
                  have c : mCand g nP nN nT U M s (some b0) = false := by simp [mCand, mBet, q1, q2, q3, h61, h93]
                  exact ih (s + 1) (some b0) _ _ _ (by omega) (by omega) rfl (nI_1 s) hb (by rw [hinv, mbL_step hs, if_neg (nb c)])
                · skip
                  refine V_iload dX8_best_96 rfl ?_
                  refine V_iload dX8_best_98 rfl ?_
                  refine V_iand dX8_best_100 ?_
                  refine V_if_eq 107 dX8_best_101 (by decide) (fun h101 => ?_) (fun h101 => ?_)
                  · skip
                    refine V_iinc dX8_best_107 rfl rfl (by decide) ?_
                    refine V_goto 5 dX8_best_110 (by decide) ?_
                    have q1 : s &&& U = U := nI_inj1024 (Nat.lt_of_le_of_lt Nat.and_le_left (by omega)) hU (by rw [← nx_and]; exact h21)
                    have q2 : dif s M = 0 := nI_inj1024 (dif_lt (by omega)) (by decide) (by rw [← nx_dif]; exact h30)
                    have q3 := bI_1 h39
                    have q6 : lowerB (nI s) (nI b0) = false := by rw [lowerB, decide_eq_true (show nI s &&& lowI (nI s ^^^ nI b0) = 0 from h101)]; rfl
                    have c : mCand g nP nN nT U M s (some b0) = false := by simp [mCand, mBet, q1, q2, q3, h61, h93, q6]
                    exact ih (s + 1) (some b0) _ _ _ (by omega) (by omega) rfl (nI_1 s) hb (by rw [hinv, mbL_step hs, if_neg (nb c)])
                  · skip
                    refine V_iload dX8_best_104 rfl ?_
                    refine V_istore_n dX8_best_106 (by decide) ?_
                    refine V_iinc dX8_best_107 rfl rfl (by decide) ?_
                    refine V_goto 5 dX8_best_110 (by decide) ?_
                    have q1 : s &&& U = U := nI_inj1024 (Nat.lt_of_le_of_lt Nat.and_le_left (by omega)) hU (by rw [← nx_and]; exact h21)
                    have q2 : dif s M = 0 := nI_inj1024 (dif_lt (by omega)) (by decide) (by rw [← nx_dif]; exact h30)
                    have q3 := bI_1 h39
                    have q6 : lowerB (nI s) (nI b0) = true := by rw [lowerB, decide_eq_false (show ¬ nI s &&& lowI (nI s ^^^ nI b0) = 0 from h101)]; rfl
                    have c : mCand g nP nN nT U M s (some b0) = true := by simp [mCand, mBet, q1, q2, q3, h61, h93, q6]
                    exact ih (s + 1) (some s) _ _ _ (by omega) (by omega) rfl (nI_1 s) (fun z h => by cases h; omega) (by rw [hinv, mbL_step hs, if_pos c])
              · skip
                refine V_iload dX8_best_64 rfl ?_
                refine V_istore_n dX8_best_66 (by decide) ?_
                refine V_goto 107 dX8_best_67 (by decide) ?_
                refine V_iinc dX8_best_107 rfl rfl (by decide) ?_
                refine V_goto 5 dX8_best_110 (by decide) ?_
                have q1 : s &&& U = U := nI_inj1024 (Nat.lt_of_le_of_lt Nat.and_le_left (by omega)) hU (by rw [← nx_and]; exact h21)
                have q2 : dif s M = 0 := nI_inj1024 (dif_lt (by omega)) (by decide) (by rw [← nx_dif]; exact h30)
                have q3 := bI_1 h39
                have c : mCand g nP nN nT U M s (some b0) = true := by simp [mCand, mBet, q1, q2, q3, h61]
                exact ih (s + 1) (some s) _ _ _ (by omega) (by omega) rfl (nI_1 s) (fun z h => by cases h; omega) (by rw [hinv, mbL_step hs, if_pos c])
          · skip
            refine V_goto 107 dX8_best_42 (by decide) ?_
            refine V_iinc dX8_best_107 rfl rfl (by decide) ?_
            refine V_goto 5 dX8_best_110 (by decide) ?_
            have q1 : s &&& U = U := nI_inj1024 (Nat.lt_of_le_of_lt Nat.and_le_left (by omega)) hU (by rw [← nx_and]; exact h21)
            have q2 : dif s M = 0 := nI_inj1024 (dif_lt (by omega)) (by decide) (by rw [← nx_dif]; exact h30)
            have q3 := bI_0 h39
            have c : mCand g nP nN nT U M s b = false := by simp [mCand, mBet, q1, q2, q3]
            exact ih (s + 1) b _ _ _ (by omega) (by omega) rfl (nI_1 s) hb (by rw [hinv, mbL_step hs, if_neg (nb c)])
set_option maxHeartbeats 4000000 in
set_option maxRecDepth 20000 in
theorem ct_X8_best (hw : WF E ad el g w0 ws) {nP : Nat} (hP : g 25 19 = nI nP) (hP10 : nP ≤ 10) {nN : Nat} (hN : g 25 20 = nI nN) (hN30 : nN ≤ 30) (hok : MNOK g nN) {nT : Nat} (hT : g 25 21 = nI nT) (hT12 : nT ≤ 12) {U M : Nat} (hU : U < 1024) (hM : M < 1024) : Ct E yX8_best cX8_best 6 (some (.int)) 4 0 0 [.ref (ad 25), .int (nI U), .int (nI M)] ws (fun r w => r = some (.int (sI (mBest g nP nN nT U M))) ∧ w = ws) := by
  refine Ct_of mw_X8_best rfl (Nat.le_of_ble_eq_true rfl) ?_
  refine V_iconst (v := -1) dX8_best_0 (by decide) ?_
  refine V_istore_n dX8_best_1 (by decide) ?_
  refine V_iconst (v := 0) dX8_best_2 (by decide) ?_
  refine V_istore dX8_best_3 (by decide) ?_
  exact lp_X8_best hw hP hP10 hN hN30 hok hT hT12 hU hM (2 ^ nP + 1) 0 none _ _ _ (Nat.zero_le _) (by omega) rfl rfl (fun _ h => by cases h) rfl
end MD1
