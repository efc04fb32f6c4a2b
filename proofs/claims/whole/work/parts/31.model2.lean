/-! ===== the reference: its calls ===== -/
def mPart (g : Nat → Nat → Int32) (v : Int32) : Int32 × (Nat → Nat → Int32) := if g 25 25 = 0 then if g 25 19 = 10 then (-1, g) else if isInB v 0 1000 = true then (g 25 19 + 1 - 1, va_up (va_up (va_up (va_up g 26 (upd (g 26) (g 25 19).toNatClampNeg v)) 27 (upd (g 27) (g 25 19).toNatClampNeg (-1))) 29 (upd (g 29) (g 25 19).toNatClampNeg (-1))) 25 (upd (g 25) 19 (g 25 19 + 1))) else (-1, g) else (-1, g)
def mOffer (g : Nat → Nat → Int32) (p v u : Int32) : Int32 × (Nat → Nat → Int32) := if mIsPt g p = true then if isInB v 0 1000 = true then if isInB u 1 1000 = true then if g 25 25 = 0 then (if v = g 26 p.toNatClampNeg then (0, g) else (1, va_up (va_up g 27 (upd (g 27) p.toNatClampNeg v)) 28 (upd (g 28) p.toNatClampNeg u))) else (if v = mVer g p (g 25 24) then (0, g) else (1, va_up (va_up g 29 (upd (g 29) p.toNatClampNeg v)) 30 (upd (g 30) p.toNatClampNeg u))) else (0, g) else (0, g) else (0, g)
def mWithdraw (g : Nat → Nat → Int32) (p : Int32) : Int32 × (Nat → Nat → Int32) := if mIsPt g p = true then if g 25 25 = 0 then (if g 27 p.toNatClampNeg = -1 then (0, g) else (1, va_up g 27 (upd (g 27) p.toNatClampNeg (-1)))) else (if g 29 p.toNatClampNeg = -1 then (0, g) else (1, va_up g 29 (upd (g 29) p.toNatClampNeg (-1)))) else (0, g)
def mAddNeed (g : Nat → Nat → Int32) (p v o lo hi : Int32) : Nat → Nat → Int32 := va_up (va_up (va_up (va_up (va_up (va_up g 31 (upd (g 31) (g 25 20).toNatClampNeg p)) 32 (upd (g 32) (g 25 20).toNatClampNeg v)) 33 (upd (g 33) (g 25 20).toNatClampNeg o)) 34 (upd (g 34) (g 25 20).toNatClampNeg lo)) 35 (upd (g 35) (g 25 20).toNatClampNeg hi)) 25 (upd (g 25) 20 (g 25 20 + 1))
def mNeed (g : Nat → Nat → Int32) (p v o lo hi : Int32) : Int32 × (Nat → Nat → Int32) := if g 25 25 = 0 then if g 25 20 = 30 then (-1, g) else if mIsPt g p = true then if mIsPt g o = true then if p = o then (-1, g) else if isInB v 0 1000 = true then if isInB lo 0 1000 = true then if isInB hi lo 1000 = true then (g 25 20 + 1 - 1, mAddNeed g p v o lo hi) else (-1, g) else (-1, g) else (-1, g) else (-1, g) else (-1, g) else (-1, g)
def mTest (g : Nat → Nat → Int32) (set : Int32) : Int32 × (Nat → Nat → Int32) := if g 25 25 = 0 then if g 25 21 = 12 then (-1, g) else if mSetB g set = true then if set = 0 then (-1, g) else (g 25 21 + 1 - 1, va_up (va_up g 36 (upd (g 36) (g 25 21).toNatClampNeg set)) 25 (upd (g 25) 21 (g 25 21 + 1))) else (-1, g) else (-1, g)
def mFits (g : Nat → Nat → Int32) (nP nN : Nat) (set : Int32) : Int32 × (Nat → Nat → Int32) := if mSetB g set = true then if set &&& (nI (mOff g nP) ^^^ -1) = 0 then if mBrk g nN set = -1 then (1, g) else (0, g) else (-1, g) else (-1, g)
def mRedF (g : Nat → Nat → Int32) (nT : Nat) (set : Int32) : Int32 × (Nat → Nat → Int32) := if mSetB g set = true then (mRed g nT set, g) else (-1, g)
def mCutG (g : Nat → Nat → Int32) (c : Int32) : Nat → Nat → Int32 := va_up (va_up g 25 (upd (g 25) 24 c)) 25 (upd (upd (g 25) 24 c) 25 1)
def mCut (g : Nat → Nat → Int32) (nP nN nT : Nat) : Int32 × (Nat → Nat → Int32) := if g 25 25 = 0 then if sI (mBest g nP nN nT 0 (mOff g nP)) = -1 then (-1, g) else (sI (mBest g nP nN nT 0 (mOff g nP)), mCutG g (sI (mBest g nP nN nT 0 (mOff g nP)))) else (-1, g)
def mChosen (g : Nat → Nat → Int32) : Int32 × (Nat → Nat → Int32) := if g 25 25 = 0 then (-1, g) else (g 25 24, g)
def mWorthF (g : Nat → Nat → Int32) (nP : Nat) : Int32 × (Nat → Nat → Int32) := if g 25 25 = 0 then (-1, g) else (mSum g nP (g 25 24).toNatClampNeg, g)
abbrev orM (g : Nat → Nat → Int32) (p : Int32) : Int32 := g 25 24 ||| ((1 : Int32) <<< (p &&& 31))
def mWhy (g : Nat → Nat → Int32) (nN nT : Nat) (p : Int32) : Int32 × (Nat → Nat → Int32) := if g 25 25 = 0 then (-1, g) else if mIsPt g p = true then if g 27 p.toNatClampNeg = -1 then (-1, g) else if isOfB (g 25 24) p = true then (-1, g) else if mBrk g nN (orM g p) = -1 then (if mRed g nT (orM g p) = -1 then (0, g) else (200 + mRed g nT (orM g p), g)) else (100 + mBrk g nN (orM g p), g) else (-1, g)
def mMay (g : Nat → Nat → Int32) (p v u : Int32) : Bool := !decide (g 25 25 = 0) && (mIsPt g p && (isInB v 0 1000 && (isInB u 1 1000 && (!isOfB (g 25 24) p && !decide (v = g 26 p.toNatClampNeg)))))
def tryG (g : Nat → Nat → Int32) (p v u : Int32) : Nat → Nat → Int32 := va_up (va_up (va_up (va_up g 25 (upd (g 25) 26 (g 27 p.toNatClampNeg))) 25 (upd (upd (g 25) 26 (g 27 p.toNatClampNeg)) 27 (g 28 p.toNatClampNeg))) 27 (upd (g 27) p.toNatClampNeg v)) 28 (upd (g 28) p.toNatClampNeg u)
def untryG (g : Nat → Nat → Int32) (p : Int32) : Nat → Nat → Int32 := va_up (va_up g 27 (upd (g 27) p.toNatClampNeg (g 25 26))) 28 (upd (g 28) p.toNatClampNeg (g 25 27))
def mFix (g : Nat → Nat → Int32) (nP nN nT : Nat) (p v u : Int32) : Int32 × (Nat → Nat → Int32) := if mMay g p v u = true then if mGoes (tryG g p v u) nP nN nT (orM g p) = true then (1, va_up (tryG g p v u) 25 (upd ((tryG g p v u) 25) 24 (orM g p))) else (0, untryG (tryG g p v u) p) else (-1, g)
def mLvS (g : Nat → Nat → Int32) (nP nN nT : Nat) (p v u : Int32) : Option Nat := mBest (tryG g p v u) nP nN nT ((1 : Int32) <<< (p &&& 31)).toNatClampNeg (orM g p).toNatClampNeg
def mLeave (g : Nat → Nat → Int32) (nP nN nT : Nat) (p v u : Int32) : Int32 × (Nat → Nat → Int32) := if mMay g p v u = true then (if sI (mLvS g nP nN nT p v u) = -1 then -1 else g 25 24 &&& (sI (mLvS g nP nN nT p v u) ^^^ -1), untryG (tryG g p v u) p) else (-1, g)
/-- behind the cut the set chosen is a set -/
def MCOK (g : Nat → Nat → Int32) : Prop := ¬ g 25 25 = 0 → ∃ C : Nat, C < 1024 ∧ g 25 24 = nI C
theorem MNOK.to {g g' : Nat → Nat → Int32} {n : Nat} (h : MNOK g n) (h1 : g' 31 = g 31) (h2 : g' 33 = g 33) : MNOK g' n := fun k hk => by rw [h1, h2]; exact h k hk
theorem mMay_pt {g : Nat → Nat → Int32} {p v u : Int32} (h : mMay g p v u = true) : ¬ g 25 25 = 0 ∧ mIsPt g p = true := by
  simp only [mMay, Bool.and_eq_true, Bool.not_eq_true', decide_eq_false_iff_not] at h
  exact ⟨h.1, h.2.1⟩
theorem orM_set {g : Nat → Nat → Int32} {p v u : Int32} {nP : Nat} (hP : g 25 19 = nI nP) (hP10 : nP ≤ 10) (hC : MCOK g) (h : mMay g p v u = true) : ∃ j C, j < nP ∧ C < 1024 ∧ p = nI j ∧ g 25 24 = nI C ∧ orM g p = nI (C ||| 2 ^ j) ∧ (1 : Int32) <<< (p &&& 31) = nI (2 ^ j) := by
  obtain ⟨h1, h2⟩ := mMay_pt h
  obtain ⟨j, hj, rfl⟩ := mIsPt_in hP hP10 h2
  obtain ⟨C, hC1, hC2⟩ := hC h1
  exact ⟨j, C, hj, hC1, rfl, hC2, by rw [orM, hC2, shl1 j (by omega), nx_or], shl1 j (by omega)⟩
section MD2
variable {E : VE} {ad : Nat → Nat} {el : Nat} {g : Nat → Nat → Int32} {w0 ws : va_W}
set_option maxHeartbeats 4000000 in
set_option maxRecDepth 20000 in
theorem ct_X8_part (hw : Wd E ad el g ws) {nP : Nat} (hP : g 25 19 = nI nP) (hP10 : nP ≤ 10) (v : Int32) : Ct E yX8_part cX8_part 2 (some (.int)) 1 0 0 [.ref (ad 25), .int v] ws (fun r w => r = some (.int (mPart (T0 g) v).1) ∧ WF E ad el (mPart (T0 g) v).2 ws w) := by
  refine Ct_of mw_X8_part rfl (Nat.le_of_ble_eq_true rfl) ?_
  have hw := WF.rf hw
  refine V_aload_n dX8_part_0 rfl ?_
  refine V_iconst (v := 0) dX8_part_1 (by decide) ?_
  refine W_put (25) hw (by decide) fp_X8_71 dX8_part_2 rfl rfl rfl rfl (Nat.le_of_ble_eq_true rfl) (fun ws1 hw1 => ?_)
  have hw1 : WF E ad el (T0 g) ws ws1 := hw1
  refine V_aload_n dX8_part_5 rfl ?_
  refine V_get (25) fl_X8_78 dX8_part_6 hw1.p25 rfl ?_
  refine V_if_ne 32 dX8_part_9 (by decide) (fun h9 => ?_) (fun h9 => ?_)
  · skip
    refine V_iconst (v := -1) dX8_part_32 (by decide) ?_
    refine V_iret dX8_part_33 rfl (by decide) (by decide) ?_
    exact fin2 (by rw [mPart, if_neg h9]; try rfl) hw1
  · skip
    refine V_aload_n dX8_part_12 rfl ?_
    refine V_get (25) fl_X8_75 dX8_part_13 hw1.p25 rfl ?_
    refine V_bipush (v := 10) dX8_part_16 (by decide) ?_
    refine V_icmp_eq 32 dX8_part_18 (by decide) (fun h18 => ?_) (fun h18 => ?_)
    · skip
      refine V_iconst (v := -1) dX8_part_32 (by decide) ?_
      refine V_iret dX8_part_33 rfl (by decide) (by decide) ?_
      exact fin2 (by rw [mPart, if_pos h9, if_pos h18]; try rfl) hw1
    · skip
      refine V_iload_n dX8_part_21 rfl ?_
      refine V_iconst (v := 0) dX8_part_22 (by decide) ?_
      refine V_sipush (v := 1000) dX8_part_23 (by decide) ?_
      refine V_rdS mw_X8_isIn ms_X8_82 dX8_part_26 (ct_X8_isIn _ _ _) rfl rfl (Nat.le_of_ble_eq_true rfl) (by decide) (by decide) (by decide) (by decide) ?_
      refine V_if_ne 34 dX8_part_29 (by decide) (fun h29 => ?_) (fun h29 => ?_)
      · skip
        have hin : vp_in (T0 g 25 19) 10 := by
          rw [show T0 g 25 19 = nI nP from hP] at h18 ⊢
          exact vp_in_nI (Nat.lt_of_le_of_ne hP10 (fun z => h18 (by rw [z]; rfl))) (by decide)
        refine V_aload_n dX8_part_34 rfl ?_
        refine V_get (25) fl_X8_9 dX8_part_35 hw1.p25 rfl ?_
        refine V_aload_n dX8_part_38 rfl ?_
        refine V_get (25) fl_X8_75 dX8_part_39 hw1.p25 rfl ?_
        refine V_iload_n dX8_part_42 rfl ?_
        refine W_iast (26) hw1 (by decide) (fun _ => rfl) dX8_part_43 hin (fun ws2 hw2 => ?_)
        refine V_aload_n dX8_part_44 rfl ?_
        refine V_get (25) fl_X8_13 dX8_part_45 hw2.p25 rfl ?_
        refine V_aload_n dX8_part_48 rfl ?_
        refine V_get (25) fl_X8_75 dX8_part_49 hw2.p25 rfl ?_
        refine V_iconst (v := -1) dX8_part_52 (by decide) ?_
        refine W_iast (27) hw2 (by decide) (fun _ => rfl) dX8_part_53 hin (fun ws3 hw3 => ?_)
        refine V_aload_n dX8_part_54 rfl ?_
        refine V_get (25) fl_X8_19 dX8_part_55 hw3.p25 rfl ?_
        refine V_aload_n dX8_part_58 rfl ?_
        refine V_get (25) fl_X8_75 dX8_part_59 hw3.p25 rfl ?_
        refine V_iconst (v := -1) dX8_part_62 (by decide) ?_
        refine W_iast (29) hw3 (by decide) (fun _ => rfl) dX8_part_63 hin (fun ws4 hw4 => ?_)
        refine V_aload_n dX8_part_64 rfl ?_
        refine V_dup dX8_part_65 rfl ?_
        refine V_get (25) fl_X8_75 dX8_part_66 hw4.p25 rfl ?_
        refine V_iconst (v := 1) dX8_part_69 (by decide) ?_
        refine V_iadd dX8_part_70 ?_
        refine W_put (25) hw4 (by decide) fp_X8_75 dX8_part_71 rfl rfl rfl rfl (Nat.le_of_ble_eq_true rfl) (fun ws5 hw5 => ?_)
        refine V_aload_n dX8_part_74 rfl ?_
        refine V_get (25) fl_X8_75 dX8_part_75 hw5.p25 rfl ?_
        refine V_iconst (v := 1) dX8_part_78 (by decide) ?_
        refine V_isub dX8_part_79 ?_
        refine V_iret dX8_part_80 rfl (by decide) (by decide) ?_
        exact fin2 (by rw [mPart, if_pos h9, if_neg h18, if_pos (bI_1 h29)]; rfl) hw5
      · skip
        refine V_iconst (v := -1) dX8_part_32 (by decide) ?_
        refine V_iret dX8_part_33 rfl (by decide) (by decide) ?_
        exact fin2 (by rw [mPart, if_pos h9, if_neg h18, if_neg (nb (bI_0 h29))]; try rfl) hw1
set_option maxHeartbeats 4000000 in
set_option maxRecDepth 20000 in
theorem ct_X8_offer (hw : Wd E ad el g ws) {nP : Nat} (hP : g 25 19 = nI nP) (hP10 : nP ≤ 10) (p v u : Int32) : Ct E yX8_offer cX8_offer 4 (some (.boolean)) 1 0 0 [.ref (ad 25), .int p, .int v, .int u] ws (fun r w => r = some (.int (mOffer (T0 g) p v u).1) ∧ WF E ad el (mOffer (T0 g) p v u).2 ws w) := by
  refine Ct_of mw_X8_offer rfl (Nat.le_of_ble_eq_true rfl) ?_
  have hw := WF.rf hw
  refine V_aload_n dX8_offer_0 rfl ?_
  refine V_iconst (v := 0) dX8_offer_1 (by decide) ?_
  refine W_put (25) hw (by decide) fp_X8_71 dX8_offer_2 rfl rfl rfl rfl (Nat.le_of_ble_eq_true rfl) (fun ws1 hw1 => ?_)
  have hw1 : WF E ad el (T0 g) ws ws1 := hw1
  refine V_aload_n dX8_offer_5 rfl ?_
  refine V_iload_n dX8_offer_6 rfl ?_
  refine V_rdV (25) mw_X8_isPart mv_X8_86 dX8_offer_7 (ct_X8_isPart hw1 p) hw1.p25 rfl rfl rfl (Nat.le_of_ble_eq_true rfl) (by decide) (by decide) (by decide) (by decide) ?_
  refine V_if_eq 35 dX8_offer_10 (by decide) (fun h10 => ?_) (fun h10 => ?_)
  · skip
    refine V_iconst (v := 0) dX8_offer_35 (by decide) ?_
    refine V_zret dX8_offer_36 rfl (by first | exact Or.inl rfl | exact Or.inr rfl) (by decide) (by decide) ?_
    exact fin2 (by rw [mOffer, if_neg (nb (bI_0 h10))]; try rfl) hw1
  · skip
    refine V_iload_n dX8_offer_13 rfl ?_
    refine V_iconst (v := 0) dX8_offer_14 (by decide) ?_
    refine V_sipush (v := 1000) dX8_offer_15 (by decide) ?_
    refine V_rdS mw_X8_isIn ms_X8_82 dX8_offer_18 (ct_X8_isIn _ _ _) rfl rfl (Nat.le_of_ble_eq_true rfl) (by decide) (by decide) (by decide) (by decide) ?_
    refine V_if_eq 35 dX8_offer_21 (by decide) (fun h21 => ?_) (fun h21 => ?_)
    · skip
      refine V_iconst (v := 0) dX8_offer_35 (by decide) ?_
      refine V_zret dX8_offer_36 rfl (by first | exact Or.inl rfl | exact Or.inr rfl) (by decide) (by decide) ?_
      exact fin2 (by rw [mOffer, if_pos (bI_1 h10), if_neg (nb (bI_0 h21))]; try rfl) hw1
    · skip
      refine V_iload_n dX8_offer_24 rfl ?_
      refine V_iconst (v := 1) dX8_offer_25 (by decide) ?_
      refine V_sipush (v := 1000) dX8_offer_26 (by decide) ?_
      refine V_rdS mw_X8_isIn ms_X8_82 dX8_offer_29 (ct_X8_isIn _ _ _) rfl rfl (Nat.le_of_ble_eq_true rfl) (by decide) (by decide) (by decide) (by decide) ?_
      refine V_if_ne 37 dX8_offer_32 (by decide) (fun h32 => ?_) (fun h32 => ?_)
      · skip
        refine V_aload_n dX8_offer_37 rfl ?_
        refine V_get (25) fl_X8_78 dX8_offer_38 hw1.p25 rfl ?_
        refine V_if_ne 72 dX8_offer_41 (by decide) (fun h41 => ?_) (fun h41 => ?_)
        · skip
          refine V_iload_n dX8_offer_72 rfl ?_
          refine V_aload_n dX8_offer_73 rfl ?_
          refine V_get (25) fl_X8_90 dX8_offer_74 hw1.p25 rfl ?_
          refine V_iload_n dX8_offer_77 rfl ?_
          refine V_rdS mw_X8_isOf ms_X8_93 dX8_offer_78 (ct_X8_isOf _ _) rfl rfl (Nat.le_of_ble_eq_true rfl) (by decide) (by decide) (by decide) (by decide) ?_
          refine V_if_eq 93 dX8_offer_81 (by decide) (fun h81 => ?_) (fun h81 => ?_)
          · skip
            refine V_aload_n dX8_offer_93 rfl ?_
            refine V_get (25) fl_X8_9 dX8_offer_94 hw1.p25 rfl ?_
            refine V_iload_n dX8_offer_97 rfl ?_
            refine V_iald (26) dX8_offer_98 hw1.p26 (by obtain ⟨j, hj, rfl⟩ := mIsPt_in (g := T0 g) hP hP10 (bI_1 h10); exact vp_in_nI (by omega) (by decide)) ?_
            refine V_icmp_ne 104 dX8_offer_99 (by decide) (fun h99 => ?_) (fun h99 => ?_)
            · skip
              refine V_aload_n dX8_offer_104 rfl ?_
              refine V_get (25) fl_X8_19 dX8_offer_105 hw1.p25 rfl ?_
              refine V_iload_n dX8_offer_108 rfl ?_
              refine V_iload_n dX8_offer_109 rfl ?_
              refine W_iast (29) hw1 (by decide) (fun _ => rfl) dX8_offer_110 (by obtain ⟨j, hj, rfl⟩ := mIsPt_in (g := T0 g) hP hP10 (bI_1 h10); exact vp_in_nI (by omega) (by decide)) (fun ws2 hw2 => ?_)
              refine V_aload_n dX8_offer_111 rfl ?_
              refine V_get (25) fl_X8_22 dX8_offer_112 hw2.p25 rfl ?_
              refine V_iload_n dX8_offer_115 rfl ?_
              refine V_iload_n dX8_offer_116 rfl ?_
              refine W_iast (30) hw2 (by decide) (fun _ => rfl) dX8_offer_117 (by obtain ⟨j, hj, rfl⟩ := mIsPt_in (g := T0 g) hP hP10 (bI_1 h10); exact vp_in_nI (by omega) (by decide)) (fun ws3 hw3 => ?_)
              refine V_iconst (v := 1) dX8_offer_118 (by decide) ?_
              refine V_zret dX8_offer_119 rfl (by first | exact Or.inl rfl | exact Or.inr rfl) (by decide) (by decide) ?_
              have e : mVer (T0 g) p (T0 g 25 24) = T0 g 26 p.toNatClampNeg := by rw [mVer, if_neg (nb (bI_0 h81))]
              exact fin2 (by rw [mOffer, if_pos (bI_1 h10), if_pos (bI_1 h21), if_pos (bI_1 h32), if_neg h41, e, if_neg h99]; try rfl) hw3
            · skip
              refine V_iconst (v := 0) dX8_offer_102 (by decide) ?_
              refine V_zret dX8_offer_103 rfl (by first | exact Or.inl rfl | exact Or.inr rfl) (by decide) (by decide) ?_
              have e : mVer (T0 g) p (T0 g 25 24) = T0 g 26 p.toNatClampNeg := by rw [mVer, if_neg (nb (bI_0 h81))]
              exact fin2 (by rw [mOffer, if_pos (bI_1 h10), if_pos (bI_1 h21), if_pos (bI_1 h32), if_neg h41, e, if_pos h99]; try rfl) hw1
          · skip
            refine V_aload_n dX8_offer_84 rfl ?_
            refine V_get (25) fl_X8_13 dX8_offer_85 hw1.p25 rfl ?_
            refine V_iload_n dX8_offer_88 rfl ?_
            refine V_iald (27) dX8_offer_89 hw1.p27 (by obtain ⟨j, hj, rfl⟩ := mIsPt_in (g := T0 g) hP hP10 (bI_1 h10); exact vp_in_nI (by omega) (by decide)) ?_
            refine V_goto 99 dX8_offer_90 (by decide) ?_
            refine V_icmp_ne 104 dX8_offer_99 (by decide) (fun h99 => ?_) (fun h99 => ?_)
            · skip
              refine V_aload_n dX8_offer_104 rfl ?_
              refine V_get (25) fl_X8_19 dX8_offer_105 hw1.p25 rfl ?_
              refine V_iload_n dX8_offer_108 rfl ?_
              refine V_iload_n dX8_offer_109 rfl ?_
              refine W_iast (29) hw1 (by decide) (fun _ => rfl) dX8_offer_110 (by obtain ⟨j, hj, rfl⟩ := mIsPt_in (g := T0 g) hP hP10 (bI_1 h10); exact vp_in_nI (by omega) (by decide)) (fun ws2 hw2 => ?_)
              refine V_aload_n dX8_offer_111 rfl ?_
              refine V_get (25) fl_X8_22 dX8_offer_112 hw2.p25 rfl ?_
              refine V_iload_n dX8_offer_115 rfl ?_
              refine V_iload_n dX8_offer_116 rfl ?_
              refine W_iast (30) hw2 (by decide) (fun _ => rfl) dX8_offer_117 (by obtain ⟨j, hj, rfl⟩ := mIsPt_in (g := T0 g) hP hP10 (bI_1 h10); exact vp_in_nI (by omega) (by decide)) (fun ws3 hw3 => ?_)
              refine V_iconst (v := 1) dX8_offer_118 (by decide) ?_
              refine V_zret dX8_offer_119 rfl (by first | exact Or.inl rfl | exact Or.inr rfl) (by decide) (by decide) ?_
              have e : mVer (T0 g) p (T0 g 25 24) = T0 g 27 p.toNatClampNeg := by rw [mVer, if_pos (bI_1 h81)]
              exact fin2 (by rw [mOffer, if_pos (bI_1 h10), if_pos (bI_1 h21), if_pos (bI_1 h32), if_neg h41, e, if_neg h99]; try rfl) hw3
            · skip
              refine V_iconst (v := 0) dX8_offer_102 (by decide) ?_
              refine V_zret dX8_offer_103 rfl (by first | exact Or.inl rfl | exact Or.inr rfl) (by decide) (by decide) ?_
              have e : mVer (T0 g) p (T0 g 25 24) = T0 g 27 p.toNatClampNeg := by rw [mVer, if_pos (bI_1 h81)]
              exact fin2 (by rw [mOffer, if_pos (bI_1 h10), if_pos (bI_1 h21), if_pos (bI_1 h32), if_neg h41, e, if_pos h99]; try rfl) hw1
        · skip
          refine V_iload_n dX8_offer_44 rfl ?_
          refine V_aload_n dX8_offer_45 rfl ?_
          refine V_get (25) fl_X8_9 dX8_offer_46 hw1.p25 rfl ?_
          refine V_iload_n dX8_offer_49 rfl ?_
          refine V_iald (26) dX8_offer_50 hw1.p26 (by obtain ⟨j, hj, rfl⟩ := mIsPt_in (g := T0 g) hP hP10 (bI_1 h10); exact vp_in_nI (by omega) (by decide)) ?_
          refine V_icmp_ne 56 dX8_offer_51 (by decide) (fun h51 => ?_) (fun h51 => ?_)
          · skip
            refine V_aload_n dX8_offer_56 rfl ?_
            refine V_get (25) fl_X8_13 dX8_offer_57 hw1.p25 rfl ?_
            refine V_iload_n dX8_offer_60 rfl ?_
            refine V_iload_n dX8_offer_61 rfl ?_
            refine W_iast (27) hw1 (by decide) (fun _ => rfl) dX8_offer_62 (by obtain ⟨j, hj, rfl⟩ := mIsPt_in (g := T0 g) hP hP10 (bI_1 h10); exact vp_in_nI (by omega) (by decide)) (fun ws2 hw2 => ?_)
            refine V_aload_n dX8_offer_63 rfl ?_
            refine V_get (25) fl_X8_16 dX8_offer_64 hw2.p25 rfl ?_
            refine V_iload_n dX8_offer_67 rfl ?_
            refine V_iload_n dX8_offer_68 rfl ?_
            refine W_iast (28) hw2 (by decide) (fun _ => rfl) dX8_offer_69 (by obtain ⟨j, hj, rfl⟩ := mIsPt_in (g := T0 g) hP hP10 (bI_1 h10); exact vp_in_nI (by omega) (by decide)) (fun ws3 hw3 => ?_)
            refine V_iconst (v := 1) dX8_offer_70 (by decide) ?_
            refine V_zret dX8_offer_71 rfl (by first | exact Or.inl rfl | exact Or.inr rfl) (by decide) (by decide) ?_
            exact fin2 (by rw [mOffer, if_pos (bI_1 h10), if_pos (bI_1 h21), if_pos (bI_1 h32), if_pos h41, if_neg h51]; try rfl) hw3
          · skip
            refine V_iconst (v := 0) dX8_offer_54 (by decide) ?_
            refine V_zret dX8_offer_55 rfl (by first | exact Or.inl rfl | exact Or.inr rfl) (by decide) (by decide) ?_
            exact fin2 (by rw [mOffer, if_pos (bI_1 h10), if_pos (bI_1 h21), if_pos (bI_1 h32), if_pos h41, if_pos h51]; try rfl) hw1
      · skip
        refine V_iconst (v := 0) dX8_offer_35 (by decide) ?_
        refine V_zret dX8_offer_36 rfl (by first | exact Or.inl rfl | exact Or.inr rfl) (by decide) (by decide) ?_
        exact fin2 (by rw [mOffer, if_pos (bI_1 h10), if_pos (bI_1 h21), if_neg (nb (bI_0 h32))]; try rfl) hw1
set_option maxHeartbeats 4000000 in
set_option maxRecDepth 20000 in
theorem ct_X8_withdraw (hw : Wd E ad el g ws) {nP : Nat} (hP : g 25 19 = nI nP) (hP10 : nP ≤ 10) (p : Int32) : Ct E yX8_withdraw cX8_withdraw 2 (some (.boolean)) 1 0 0 [.ref (ad 25), .int p] ws (fun r w => r = some (.int (mWithdraw (T0 g) p).1) ∧ WF E ad el (mWithdraw (T0 g) p).2 ws w) := by
  refine Ct_of mw_X8_withdraw rfl (Nat.le_of_ble_eq_true rfl) ?_
  have hw := WF.rf hw
  refine V_aload_n dX8_withdraw_0 rfl ?_
  refine V_iconst (v := 0) dX8_withdraw_1 (by decide) ?_
  refine W_put (25) hw (by decide) fp_X8_71 dX8_withdraw_2 rfl rfl rfl rfl (Nat.le_of_ble_eq_true rfl) (fun ws1 hw1 => ?_)
  have hw1 : WF E ad el (T0 g) ws ws1 := hw1
  refine V_aload_n dX8_withdraw_5 rfl ?_
  refine V_iload_n dX8_withdraw_6 rfl ?_
  refine V_rdV (25) mw_X8_isPart mv_X8_86 dX8_withdraw_7 (ct_X8_isPart hw1 p) hw1.p25 rfl rfl rfl (Nat.le_of_ble_eq_true rfl) (by decide) (by decide) (by decide) (by decide) ?_
  refine V_if_eq 39 dX8_withdraw_10 (by decide) (fun h10 => ?_) (fun h10 => ?_)
  · skip
    refine V_iconst (v := 0) dX8_withdraw_39 (by decide) ?_
    refine V_zret dX8_withdraw_40 rfl (by first | exact Or.inl rfl | exact Or.inr rfl) (by decide) (by decide) ?_
    exact fin2 (by rw [mWithdraw, if_neg (nb (bI_0 h10))]; try rfl) hw1
  · skip
    refine V_aload_n dX8_withdraw_13 rfl ?_
    refine V_get (25) fl_X8_78 dX8_withdraw_14 hw1.p25 rfl ?_
    refine V_if_eq 29 dX8_withdraw_17 (by decide) (fun h17 => ?_) (fun h17 => ?_)
    · skip
      refine V_aload_n dX8_withdraw_29 rfl ?_
      refine V_get (25) fl_X8_13 dX8_withdraw_30 hw1.p25 rfl ?_
      refine V_iload_n dX8_withdraw_33 rfl ?_
      refine V_iald (27) dX8_withdraw_34 hw1.p27 (by obtain ⟨j, hj, rfl⟩ := mIsPt_in (g := T0 g) hP hP10 (bI_1 h10); exact vp_in_nI (by omega) (by decide)) ?_
      refine V_iconst (v := -1) dX8_withdraw_35 (by decide) ?_
      refine V_icmp_ne 41 dX8_withdraw_36 (by decide) (fun h36 => ?_) (fun h36 => ?_)
      · skip
        refine V_aload_n dX8_withdraw_41 rfl ?_
        refine V_get (25) fl_X8_78 dX8_withdraw_42 hw1.p25 rfl ?_
        refine V_if_eq 58 dX8_withdraw_45 (by decide) (fun h45 => ?_) (fun h45 => absurd h17 h45)
        refine V_aload_n dX8_withdraw_58 rfl ?_
        refine V_get (25) fl_X8_13 dX8_withdraw_59 hw1.p25 rfl ?_
        refine V_iload_n dX8_withdraw_62 rfl ?_
        refine V_iconst (v := -1) dX8_withdraw_63 (by decide) ?_
        refine W_iast (27) hw1 (by decide) (fun _ => rfl) dX8_withdraw_64 (by obtain ⟨j, hj, rfl⟩ := mIsPt_in (g := T0 g) hP hP10 (bI_1 h10); exact vp_in_nI (by omega) (by decide)) (fun ws2 hw2 => ?_)
        refine V_iconst (v := 1) dX8_withdraw_65 (by decide) ?_
        refine V_zret dX8_withdraw_66 rfl (by first | exact Or.inl rfl | exact Or.inr rfl) (by decide) (by decide) ?_
        exact fin2 (by rw [mWithdraw, if_pos (bI_1 h10), if_pos h17, if_neg h36]; try rfl) hw2
      · skip
        refine V_iconst (v := 0) dX8_withdraw_39 (by decide) ?_
        refine V_zret dX8_withdraw_40 rfl (by first | exact Or.inl rfl | exact Or.inr rfl) (by decide) (by decide) ?_
        exact fin2 (by rw [mWithdraw, if_pos (bI_1 h10), if_pos h17, if_pos h36]; try rfl) hw1
    · skip
      refine V_aload_n dX8_withdraw_20 rfl ?_
      refine V_get (25) fl_X8_19 dX8_withdraw_21 hw1.p25 rfl ?_
      refine V_iload_n dX8_withdraw_24 rfl ?_
      refine V_iald (29) dX8_withdraw_25 hw1.p29 (by obtain ⟨j, hj, rfl⟩ := mIsPt_in (g := T0 g) hP hP10 (bI_1 h10); exact vp_in_nI (by omega) (by decide)) ?_
      refine V_goto 35 dX8_withdraw_26 (by decide) ?_
      refine V_iconst (v := -1) dX8_withdraw_35 (by decide) ?_
      refine V_icmp_ne 41 dX8_withdraw_36 (by decide) (fun h36 => ?_) (fun h36 => ?_)
      · skip
        refine V_aload_n dX8_withdraw_41 rfl ?_
        refine V_get (25) fl_X8_78 dX8_withdraw_42 hw1.p25 rfl ?_
        refine V_if_eq 58 dX8_withdraw_45 (by decide) (fun h45 => absurd h45 h17) (fun h45 => ?_)
        refine V_aload_n dX8_withdraw_48 rfl ?_
        refine V_get (25) fl_X8_19 dX8_withdraw_49 hw1.p25 rfl ?_
        refine V_iload_n dX8_withdraw_52 rfl ?_
        refine V_iconst (v := -1) dX8_withdraw_53 (by decide) ?_
        refine W_iast (29) hw1 (by decide) (fun _ => rfl) dX8_withdraw_54 (by obtain ⟨j, hj, rfl⟩ := mIsPt_in (g := T0 g) hP hP10 (bI_1 h10); exact vp_in_nI (by omega) (by decide)) (fun ws2 hw2 => ?_)
        refine V_goto 65 dX8_withdraw_55 (by decide) ?_
        refine V_iconst (v := 1) dX8_withdraw_65 (by decide) ?_
        refine V_zret dX8_withdraw_66 rfl (by first | exact Or.inl rfl | exact Or.inr rfl) (by decide) (by decide) ?_
        exact fin2 (by rw [mWithdraw, if_pos (bI_1 h10), if_neg h17, if_neg h36]; try rfl) hw2
      · skip
        refine V_iconst (v := 0) dX8_withdraw_39 (by decide) ?_
        refine V_zret dX8_withdraw_40 rfl (by first | exact Or.inl rfl | exact Or.inr rfl) (by decide) (by decide) ?_
        exact fin2 (by rw [mWithdraw, if_pos (bI_1 h10), if_neg h17, if_pos h36]; try rfl) hw1
set_option maxHeartbeats 4000000 in
set_option maxRecDepth 20000 in
theorem ct_X8_need (hw : Wd E ad el g ws) {nN : Nat} (hN : g 25 20 = nI nN) (hN30 : nN ≤ 30) (p v o lo hi : Int32) : Ct E yX8_need cX8_need 6 (some (.int)) 1 0 0 [.ref (ad 25), .int p, .int v, .int o, .int lo, .int hi] ws (fun r w => r = some (.int (mNeed (T0 g) p v o lo hi).1) ∧ WF E ad el (mNeed (T0 g) p v o lo hi).2 ws w) := by
  refine Ct_of mw_X8_need rfl (Nat.le_of_ble_eq_true rfl) ?_
  have hw := WF.rf hw
  refine V_aload_n dX8_need_0 rfl ?_
  refine V_iconst (v := 0) dX8_need_1 (by decide) ?_
  refine W_put (25) hw (by decide) fp_X8_71 dX8_need_2 rfl rfl rfl rfl (Nat.le_of_ble_eq_true rfl) (fun ws1 hw1 => ?_)
  have hw1 : WF E ad el (T0 g) ws ws1 := hw1
  refine V_aload_n dX8_need_5 rfl ?_
  refine V_get (25) fl_X8_78 dX8_need_6 hw1.p25 rfl ?_
  refine V_if_ne 78 dX8_need_9 (by decide) (fun h9 => ?_) (fun h9 => ?_)
  · skip
    refine V_iconst (v := -1) dX8_need_78 (by decide) ?_
    refine V_iret dX8_need_79 rfl (by decide) (by decide) ?_
    exact fin2 (by rw [mNeed, if_neg h9]; try rfl) hw1
  · skip
    refine V_aload_n dX8_need_12 rfl ?_
    refine V_get (25) fl_X8_97 dX8_need_13 hw1.p25 rfl ?_
    refine V_bipush (v := 30) dX8_need_16 (by decide) ?_
    refine V_icmp_eq 78 dX8_need_18 (by decide) (fun h18 => ?_) (fun h18 => ?_)
    · skip
      refine V_iconst (v := -1) dX8_need_78 (by decide) ?_
      refine V_iret dX8_need_79 rfl (by decide) (by decide) ?_
      exact fin2 (by rw [mNeed, if_pos h9, if_pos h18]; try rfl) hw1
    · skip
      refine V_aload_n dX8_need_21 rfl ?_
      refine V_iload_n dX8_need_22 rfl ?_
      refine V_rdV (25) mw_X8_isPart mv_X8_86 dX8_need_23 (ct_X8_isPart hw1 p) hw1.p25 rfl rfl rfl (Nat.le_of_ble_eq_true rfl) (by decide) (by decide) (by decide) (by decide) ?_
      refine V_if_eq 78 dX8_need_26 (by decide) (fun h26 => ?_) (fun h26 => ?_)
      · skip
        refine V_iconst (v := -1) dX8_need_78 (by decide) ?_
        refine V_iret dX8_need_79 rfl (by decide) (by decide) ?_
        exact fin2 (by rw [mNeed, if_pos h9, if_neg h18, if_neg (nb (bI_0 h26))]; try rfl) hw1
      · skip
        refine V_aload_n dX8_need_29 rfl ?_
        refine V_iload_n dX8_need_30 rfl ?_
        refine V_rdV (25) mw_X8_isPart mv_X8_86 dX8_need_31 (ct_X8_isPart hw1 o) hw1.p25 rfl rfl rfl (Nat.le_of_ble_eq_true rfl) (by decide) (by decide) (by decide) (by decide) ?_
        refine V_if_eq 78 dX8_need_34 (by decide) (fun h34 => ?_) (fun h34 => ?_)
        · skip
          refine V_iconst (v := -1) dX8_need_78 (by decide) ?_
          refine V_iret dX8_need_79 rfl (by decide) (by decide) ?_
          exact fin2 (by rw [mNeed, if_pos h9, if_neg h18, if_pos (bI_1 h26), if_neg (nb (bI_0 h34))]; try rfl) hw1
        · skip
          refine V_iload_n dX8_need_37 rfl ?_
          refine V_iload_n dX8_need_38 rfl ?_
          refine V_icmp_eq 78 dX8_need_39 (by decide) (fun h39 => ?_) (fun h39 => ?_)
          · skip
            refine V_iconst (v := -1) dX8_need_78 (by decide) ?_
            refine V_iret dX8_need_79 rfl (by decide) (by decide) ?_
            exact fin2 (by rw [mNeed, if_pos h9, if_neg h18, if_pos (bI_1 h26), if_pos (bI_1 h34), if_pos h39]; try rfl) hw1
          · skip
            refine V_iload_n dX8_need_42 rfl ?_
            refine V_iconst (v := 0) dX8_need_43 (by decide) ?_
            refine V_sipush (v := 1000) dX8_need_44 (by decide) ?_
            refine V_rdS mw_X8_isIn ms_X8_82 dX8_need_47 (ct_X8_isIn _ _ _) rfl rfl (Nat.le_of_ble_eq_true rfl) (by decide) (by decide) (by decide) (by decide) ?_
            refine V_if_eq 78 dX8_need_50 (by decide) (fun h50 => ?_) (fun h50 => ?_)
            · skip
              refine V_iconst (v := -1) dX8_need_78 (by decide) ?_
              refine V_iret dX8_need_79 rfl (by decide) (by decide) ?_
              exact fin2 (by rw [mNeed, if_pos h9, if_neg h18, if_pos (bI_1 h26), if_pos (bI_1 h34), if_neg h39, if_neg (nb (bI_0 h50))]; try rfl) hw1
            · skip
              refine V_iload dX8_need_53 rfl ?_
              refine V_iconst (v := 0) dX8_need_55 (by decide) ?_
              refine V_sipush (v := 1000) dX8_need_56 (by decide) ?_
              refine V_rdS mw_X8_isIn ms_X8_82 dX8_need_59 (ct_X8_isIn _ _ _) rfl rfl (Nat.le_of_ble_eq_true rfl) (by decide) (by decide) (by decide) (by decide) ?_
              refine V_if_eq 78 dX8_need_62 (by decide) (fun h62 => ?_) (fun h62 => ?_)
              · skip
                refine V_iconst (v := -1) dX8_need_78 (by decide) ?_
                refine V_iret dX8_need_79 rfl (by decide) (by decide) ?_
                exact fin2 (by rw [mNeed, if_pos h9, if_neg h18, if_pos (bI_1 h26), if_pos (bI_1 h34), if_neg h39, if_pos (bI_1 h50), if_neg (nb (bI_0 h62))]; try rfl) hw1
              · skip
                refine V_iload dX8_need_65 rfl ?_
                refine V_iload dX8_need_67 rfl ?_
                refine V_sipush (v := 1000) dX8_need_69 (by decide) ?_
                refine V_rdS mw_X8_isIn ms_X8_82 dX8_need_72 (ct_X8_isIn _ _ _) rfl rfl (Nat.le_of_ble_eq_true rfl) (by decide) (by decide) (by decide) (by decide) ?_
                refine V_if_ne 80 dX8_need_75 (by decide) (fun h75 => ?_) (fun h75 => ?_)
                · skip
                  have hin : vp_in (T0 g 25 20) 30 := by
                    rw [show T0 g 25 20 = nI nN from hN] at h18 ⊢
                    exact vp_in_nI (Nat.lt_of_le_of_ne hN30 (fun z => h18 (by rw [z]; rfl))) (by decide)
                  refine V_aload_n dX8_need_80 rfl ?_
                  refine V_get (25) fl_X8_25 dX8_need_81 hw1.p25 rfl ?_
                  refine V_aload_n dX8_need_84 rfl ?_
                  refine V_get (25) fl_X8_97 dX8_need_85 hw1.p25 rfl ?_
                  refine V_iload_n dX8_need_88 rfl ?_
                  refine W_iast (31) hw1 (by decide) (fun _ => rfl) dX8_need_89 hin (fun ws2 hw2 => ?_)
                  refine V_aload_n dX8_need_90 rfl ?_
                  refine V_get (25) fl_X8_28 dX8_need_91 hw2.p25 rfl ?_
                  refine V_aload_n dX8_need_94 rfl ?_
                  refine V_get (25) fl_X8_97 dX8_need_95 hw2.p25 rfl ?_
                  refine V_iload_n dX8_need_98 rfl ?_
                  refine W_iast (32) hw2 (by decide) (fun _ => rfl) dX8_need_99 hin (fun ws3 hw3 => ?_)
                  refine V_aload_n dX8_need_100 rfl ?_
                  refine V_get (25) fl_X8_31 dX8_need_101 hw3.p25 rfl ?_
                  refine V_aload_n dX8_need_104 rfl ?_
                  refine V_get (25) fl_X8_97 dX8_need_105 hw3.p25 rfl ?_
                  refine V_iload_n dX8_need_108 rfl ?_
                  refine W_iast (33) hw3 (by decide) (fun _ => rfl) dX8_need_109 hin (fun ws4 hw4 => ?_)
                  refine V_aload_n dX8_need_110 rfl ?_
                  refine V_get (25) fl_X8_34 dX8_need_111 hw4.p25 rfl ?_
                  refine V_aload_n dX8_need_114 rfl ?_
                  refine V_get (25) fl_X8_97 dX8_need_115 hw4.p25 rfl ?_
                  refine V_iload dX8_need_118 rfl ?_
                  refine W_iast (34) hw4 (by decide) (fun _ => rfl) dX8_need_120 hin (fun ws5 hw5 => ?_)
                  refine V_aload_n dX8_need_121 rfl ?_
                  refine V_get (25) fl_X8_37 dX8_need_122 hw5.p25 rfl ?_
                  refine V_aload_n dX8_need_125 rfl ?_
                  refine V_get (25) fl_X8_97 dX8_need_126 hw5.p25 rfl ?_
                  refine V_iload dX8_need_129 rfl ?_
                  refine W_iast (35) hw5 (by decide) (fun _ => rfl) dX8_need_131 hin (fun ws6 hw6 => ?_)
                  refine V_aload_n dX8_need_132 rfl ?_
                  refine V_dup dX8_need_133 rfl ?_
                  refine V_get (25) fl_X8_97 dX8_need_134 hw6.p25 rfl ?_
                  refine V_iconst (v := 1) dX8_need_137 (by decide) ?_
                  refine V_iadd dX8_need_138 ?_
                  refine W_put (25) hw6 (by decide) fp_X8_97 dX8_need_139 rfl rfl rfl rfl (Nat.le_of_ble_eq_true rfl) (fun ws7 hw7 => ?_)
                  refine V_aload_n dX8_need_142 rfl ?_
                  refine V_get (25) fl_X8_97 dX8_need_143 hw7.p25 rfl ?_
                  refine V_iconst (v := 1) dX8_need_146 (by decide) ?_
                  refine V_isub dX8_need_147 ?_
                  refine V_iret dX8_need_148 rfl (by decide) (by decide) ?_
                  exact fin2 (by rw [mNeed, if_pos h9, if_neg h18, if_pos (bI_1 h26), if_pos (bI_1 h34), if_neg h39, if_pos (bI_1 h50), if_pos (bI_1 h62), if_pos (bI_1 h75)]; rfl) hw7
                · skip
                  refine V_iconst (v := -1) dX8_need_78 (by decide) ?_
                  refine V_iret dX8_need_79 rfl (by decide) (by decide) ?_
                  exact fin2 (by rw [mNeed, if_pos h9, if_neg h18, if_pos (bI_1 h26), if_pos (bI_1 h34), if_neg h39, if_pos (bI_1 h50), if_pos (bI_1 h62), if_neg (nb (bI_0 h75))]; try rfl) hw1
set_option maxHeartbeats 4000000 in
set_option maxRecDepth 20000 in
theorem ct_X8_test (hw : Wd E ad el g ws) {nT : Nat} (hT : g 25 21 = nI nT) (hT12 : nT ≤ 12) (set : Int32) : Ct E yX8_test cX8_test 2 (some (.int)) 2 0 0 [.ref (ad 25), .int set] ws (fun r w => r = some (.int (mTest (T0 g) set).1) ∧ WF E ad el (mTest (T0 g) set).2 ws w) := by
  refine Ct_of mw_X8_test rfl (Nat.le_of_ble_eq_true rfl) ?_
  have hw := WF.rf hw
  refine V_aload_n dX8_test_0 rfl ?_
  refine V_iconst (v := 0) dX8_test_1 (by decide) ?_
  refine W_put (25) hw (by decide) fp_X8_71 dX8_test_2 rfl rfl rfl rfl (Nat.le_of_ble_eq_true rfl) (fun ws1 hw1 => ?_)
  have hw1 : WF E ad el (T0 g) ws ws1 := hw1
  refine V_aload_n dX8_test_5 rfl ?_
  refine V_get (25) fl_X8_78 dX8_test_6 hw1.p25 rfl ?_
  refine V_if_ne 33 dX8_test_9 (by decide) (fun h9 => ?_) (fun h9 => ?_)
  · skip
    refine V_iconst (v := -1) dX8_test_33 (by decide) ?_
    refine V_iret dX8_test_34 rfl (by decide) (by decide) ?_
    exact fin2 (by rw [mTest, if_neg h9]; try rfl) hw1
  · skip
    refine V_aload_n dX8_test_12 rfl ?_
    refine V_get (25) fl_X8_100 dX8_test_13 hw1.p25 rfl ?_
    refine V_bipush (v := 12) dX8_test_16 (by decide) ?_
    refine V_icmp_eq 33 dX8_test_18 (by decide) (fun h18 => ?_) (fun h18 => ?_)
    · skip
      refine V_iconst (v := -1) dX8_test_33 (by decide) ?_
      refine V_iret dX8_test_34 rfl (by decide) (by decide) ?_
      exact fin2 (by rw [mTest, if_pos h9, if_pos h18]; try rfl) hw1
    · skip
      refine V_aload_n dX8_test_21 rfl ?_
      refine V_iload_n dX8_test_22 rfl ?_
      refine V_rdV (25) mw_X8_isSet mv_X8_103 dX8_test_23 (ct_X8_isSet hw1 set) hw1.p25 rfl rfl rfl (Nat.le_of_ble_eq_true rfl) (by decide) (by decide) (by decide) (by decide) ?_
      refine V_if_eq 33 dX8_test_26 (by decide) (fun h26 => ?_) (fun h26 => ?_)
      · skip
        refine V_iconst (v := -1) dX8_test_33 (by decide) ?_
        refine V_iret dX8_test_34 rfl (by decide) (by decide) ?_
        exact fin2 (by rw [mTest, if_pos h9, if_neg h18, if_neg (nb (bI_0 h26))]; try rfl) hw1
      · skip
        refine V_iload_n dX8_test_29 rfl ?_
        refine V_if_ne 35 dX8_test_30 (by decide) (fun h30 => ?_) (fun h30 => ?_)
        · skip
          have hin : vp_in (T0 g 25 21) 12 := by
            rw [show T0 g 25 21 = nI nT from hT] at h18 ⊢
            exact vp_in_nI (Nat.lt_of_le_of_ne hT12 (fun z => h18 (by rw [z]; rfl))) (by decide)
          refine V_aload_n dX8_test_35 rfl ?_
          refine V_get (25) fl_X8_40 dX8_test_36 hw1.p25 rfl ?_
          refine V_aload_n dX8_test_39 rfl ?_
          refine V_get (25) fl_X8_100 dX8_test_40 hw1.p25 rfl ?_
          refine V_iload_n dX8_test_43 rfl ?_
          refine W_iast (36) hw1 (by decide) (fun _ => rfl) dX8_test_44 hin (fun ws2 hw2 => ?_)
          refine V_aload_n dX8_test_45 rfl ?_
          refine V_dup dX8_test_46 rfl ?_
          refine V_get (25) fl_X8_100 dX8_test_47 hw2.p25 rfl ?_
          refine V_iconst (v := 1) dX8_test_50 (by decide) ?_
          refine V_iadd dX8_test_51 ?_
          refine W_put (25) hw2 (by decide) fp_X8_100 dX8_test_52 rfl rfl rfl rfl (Nat.le_of_ble_eq_true rfl) (fun ws3 hw3 => ?_)
          refine V_aload_n dX8_test_55 rfl ?_
          refine V_get (25) fl_X8_100 dX8_test_56 hw3.p25 rfl ?_
          refine V_iconst (v := 1) dX8_test_59 (by decide) ?_
          refine V_isub dX8_test_60 ?_
          refine V_iret dX8_test_61 rfl (by decide) (by decide) ?_
          exact fin2 (by rw [mTest, if_pos h9, if_neg h18, if_pos (bI_1 h26), if_neg h30]; rfl) hw3
        · skip
          refine V_iconst (v := -1) dX8_test_33 (by decide) ?_
          refine V_iret dX8_test_34 rfl (by decide) (by decide) ?_
          exact fin2 (by rw [mTest, if_pos h9, if_neg h18, if_pos (bI_1 h26), if_pos h30]; try rfl) hw1
set_option maxHeartbeats 4000000 in
set_option maxRecDepth 20000 in
theorem ct_X8_fits (hw : Wd E ad el g ws) {nP : Nat} (hP : g 25 19 = nI nP) (hP10 : nP ≤ 10) {nN : Nat} (hN : g 25 20 = nI nN) (hN30 : nN ≤ 30) (hok : MNOK g nN) (set : Int32) : Ct E yX8_fits cX8_fits 2 (some (.int)) 3 0 0 [.ref (ad 25), .int set] ws (fun r w => r = some (.int (mFits (T0 g) nP nN set).1) ∧ WF E ad el (mFits (T0 g) nP nN set).2 ws w) := by
  refine Ct_of mw_X8_fits rfl (Nat.le_of_ble_eq_true rfl) ?_
  have hw := WF.rf hw
  refine V_aload_n dX8_fits_0 rfl ?_
  refine V_iconst (v := 0) dX8_fits_1 (by decide) ?_
  refine W_put (25) hw (by decide) fp_X8_71 dX8_fits_2 rfl rfl rfl rfl (Nat.le_of_ble_eq_true rfl) (fun ws1 hw1 => ?_)
  have hw1 : WF E ad el (T0 g) ws ws1 := hw1
  refine V_aload_n dX8_fits_5 rfl ?_
  refine V_iload_n dX8_fits_6 rfl ?_
  refine V_rdV (25) mw_X8_isSet mv_X8_103 dX8_fits_7 (ct_X8_isSet hw1 set) hw1.p25 rfl rfl rfl (Nat.le_of_ble_eq_true rfl) (by decide) (by decide) (by decide) (by decide) ?_
  refine V_if_eq 41 dX8_fits_10 (by decide) (fun h10 => ?_) (fun h10 => ?_)
  · skip
    refine V_iconst (v := -1) dX8_fits_41 (by decide) ?_
    refine V_iret dX8_fits_42 rfl (by decide) (by decide) ?_
    exact fin2 (by rw [mFits, if_neg (nb (bI_0 h10))]; try rfl) hw1
  · skip
    refine V_iload_n dX8_fits_13 rfl ?_
    refine V_aload_n dX8_fits_14 rfl ?_
    refine V_rdV (25) mw_X8_offered mv_X8_110 dX8_fits_15 (ct_X8_offered hw1 hP hP10) hw1.p25 rfl rfl rfl (Nat.le_of_ble_eq_true rfl) (by decide) (by decide) (by decide) (by decide) ?_
    refine V_iconst (v := -1) dX8_fits_18 (by decide) ?_
    refine V_ixor dX8_fits_19 ?_
    refine V_iand dX8_fits_20 ?_
    refine V_if_ne 41 dX8_fits_21 (by decide) (fun h21 => ?_) (fun h21 => ?_)
    · skip
      refine V_iconst (v := -1) dX8_fits_41 (by decide) ?_
      refine V_iret dX8_fits_42 rfl (by decide) (by decide) ?_
      exact fin2 (by rw [mFits, if_pos (bI_1 h10), if_neg h21]; try rfl) hw1
    · skip
      refine V_aload_n dX8_fits_24 rfl ?_
      refine V_iload_n dX8_fits_25 rfl ?_
      refine V_rdV (25) mw_X8_broken mv_X8_114 dX8_fits_26 (ct_X8_broken (g := T0 g) hw1 hN hN30 hok set) hw1.p25 rfl rfl rfl (Nat.le_of_ble_eq_true rfl) (by decide) (by decide) (by decide) (by decide) ?_
      refine V_iconst (v := -1) dX8_fits_29 (by decide) ?_
      refine V_icmp_ne 37 dX8_fits_30 (by decide) (fun h30 => ?_) (fun h30 => ?_)
      · skip
        refine V_iconst (v := 0) dX8_fits_37 (by decide) ?_
        refine V_goto 42 dX8_fits_38 (by decide) ?_
        refine V_iret dX8_fits_42 rfl (by decide) (by decide) ?_
        exact fin2 (by rw [mFits, if_pos (bI_1 h10), if_pos h21, if_neg h30]; try rfl) hw1
      · skip
        refine V_iconst (v := 1) dX8_fits_33 (by decide) ?_
        refine V_goto 42 dX8_fits_34 (by decide) ?_
        refine V_iret dX8_fits_42 rfl (by decide) (by decide) ?_
        exact fin2 (by rw [mFits, if_pos (bI_1 h10), if_pos h21, if_pos h30]; try rfl) hw1
set_option maxHeartbeats 4000000 in
set_option maxRecDepth 20000 in
theorem ct_X8_red (hw : Wd E ad el g ws) {nT : Nat} (hT : g 25 21 = nI nT) (hT12 : nT ≤ 12) (set : Int32) : Ct E yX8_red cX8_red 2 (some (.int)) 2 0 0 [.ref (ad 25), .int set] ws (fun r w => r = some (.int (mRedF (T0 g) nT set).1) ∧ WF E ad el (mRedF (T0 g) nT set).2 ws w) := by
  refine Ct_of mw_X8_red rfl (Nat.le_of_ble_eq_true rfl) ?_
  have hw := WF.rf hw
  refine V_aload_n dX8_red_0 rfl ?_
  refine V_iconst (v := 0) dX8_red_1 (by decide) ?_
  refine W_put (25) hw (by decide) fp_X8_71 dX8_red_2 rfl rfl rfl rfl (Nat.le_of_ble_eq_true rfl) (fun ws1 hw1 => ?_)
  have hw1 : WF E ad el (T0 g) ws ws1 := hw1
  refine V_aload_n dX8_red_5 rfl ?_
  refine V_iload_n dX8_red_6 rfl ?_
  refine V_rdV (25) mw_X8_isSet mv_X8_103 dX8_red_7 (ct_X8_isSet hw1 set) hw1.p25 rfl rfl rfl (Nat.le_of_ble_eq_true rfl) (by decide) (by decide) (by decide) (by decide) ?_
  refine V_if_eq 21 dX8_red_10 (by decide) (fun h10 => ?_) (fun h10 => ?_)
  · skip
    refine V_iconst (v := -1) dX8_red_21 (by decide) ?_
    refine V_iret dX8_red_22 rfl (by decide) (by decide) ?_
    exact fin2 (by rw [mRedF, if_neg (nb (bI_0 h10))]; try rfl) hw1
  · skip
    refine V_aload_n dX8_red_13 rfl ?_
    refine V_iload_n dX8_red_14 rfl ?_
    refine V_rdV (25) mw_X8_redOf mv_X8_118 dX8_red_15 (ct_X8_redOf hw1 hT hT12 set) hw1.p25 rfl rfl rfl (Nat.le_of_ble_eq_true rfl) (by decide) (by decide) (by decide) (by decide) ?_
    refine V_goto 22 dX8_red_18 (by decide) ?_
    refine V_iret dX8_red_22 rfl (by decide) (by decide) ?_
    exact fin2 (by rw [mRedF, if_pos (bI_1 h10)]; try rfl) hw1
set_option maxHeartbeats 4000000 in
set_option maxRecDepth 20000 in
theorem ct_X8_cut (hw : Wd E ad el g ws) {nP : Nat} (hP : g 25 19 = nI nP) (hP10 : nP ≤ 10) {nN : Nat} (hN : g 25 20 = nI nN) (hN30 : nN ≤ 30) (hok : MNOK g nN) {nT : Nat} (hT : g 25 21 = nI nT) (hT12 : nT ≤ 12) : Ct E yX8_cut cX8_cut 2 (some (.int)) 5 0 0 [.ref (ad 25)] ws (fun r w => r = some (.int (mCut (T0 g) nP nN nT).1) ∧ WF E ad el (mCut (T0 g) nP nN nT).2 ws w) := by
  refine Ct_of mw_X8_cut rfl (Nat.le_of_ble_eq_true rfl) ?_
  have hw := WF.rf hw
  have hM : mOff (T0 g) nP < 1024 := Nat.lt_of_lt_of_le (maskN_lt _ nP) (Nat.pow_le_pow_right (by decide) hP10)
  refine V_aload_n dX8_cut_0 rfl ?_
  refine V_iconst (v := 0) dX8_cut_1 (by decide) ?_
  refine W_put (25) hw (by decide) fp_X8_71 dX8_cut_2 rfl rfl rfl rfl (Nat.le_of_ble_eq_true rfl) (fun ws1 hw1 => ?_)
  have hw1 : WF E ad el (T0 g) ws ws1 := hw1
  refine V_aload_n dX8_cut_5 rfl ?_
  refine V_get (25) fl_X8_78 dX8_cut_6 hw1.p25 rfl ?_
  refine V_if_eq 14 dX8_cut_9 (by decide) (fun h9 => ?_) (fun h9 => ?_)
  · skip
    refine V_aload_n dX8_cut_14 rfl ?_
    refine V_iconst (v := 0) dX8_cut_15 (by decide) ?_
    refine V_aload_n dX8_cut_16 rfl ?_
    refine V_rdV (25) mw_X8_offered mv_X8_110 dX8_cut_17 (ct_X8_offered hw1 hP hP10) hw1.p25 rfl rfl rfl (Nat.le_of_ble_eq_true rfl) (by decide) (by decide) (by decide) (by decide) ?_
    refine V_rdV (25) mw_X8_best mv_X8_127 dX8_cut_20 (ct_X8_best (g := T0 g) hw1 hP hP10 hN hN30 hok hT hT12 (U := 0) (by decide) hM) hw1.p25 rfl rfl rfl (Nat.le_of_ble_eq_true rfl) (by decide) (by decide) (by decide) (by decide) ?_
    refine V_istore_n dX8_cut_23 (by decide) ?_
    refine V_iload_n dX8_cut_24 rfl ?_
    refine V_iconst (v := -1) dX8_cut_25 (by decide) ?_
    refine V_icmp_ne 31 dX8_cut_26 (by decide) (fun h26 => ?_) (fun h26 => ?_)
    · skip
      refine V_aload_n dX8_cut_31 rfl ?_
      refine V_iload_n dX8_cut_32 rfl ?_
      refine W_put (25) hw1 (by decide) fp_X8_90 dX8_cut_33 rfl rfl rfl rfl (Nat.le_of_ble_eq_true rfl) (fun ws2 hw2 => ?_)
      refine V_aload_n dX8_cut_36 rfl ?_
      refine V_iconst (v := 1) dX8_cut_37 (by decide) ?_
      refine W_put (25) hw2 (by decide) fp_X8_78 dX8_cut_38 rfl rfl rfl rfl (Nat.le_of_ble_eq_true rfl) (fun ws3 hw3 => ?_)
      refine V_aload_n dX8_cut_41 rfl ?_
      refine V_get (25) fl_X8_90 dX8_cut_42 hw3.p25 rfl ?_
      refine V_iret dX8_cut_45 rfl (by decide) (by decide) ?_
      exact fin2 (by rw [mCut, if_pos h9, if_neg h26]; rfl) hw3
    · skip
      refine V_iconst (v := -1) dX8_cut_29 (by decide) ?_
      refine V_iret dX8_cut_30 rfl (by decide) (by decide) ?_
      exact fin2 (by rw [mCut, if_pos h9, if_pos h26]; try rfl) hw1
  · skip
    refine V_iconst (v := -1) dX8_cut_12 (by decide) ?_
    refine V_iret dX8_cut_13 rfl (by decide) (by decide) ?_
    exact fin2 (by rw [mCut, if_neg h9]; try rfl) hw1
set_option maxHeartbeats 4000000 in
set_option maxRecDepth 20000 in
theorem ct_X8_chosen (hw : Wd E ad el g ws)  : Ct E yX8_chosen cX8_chosen 1 (some (.int)) 0 0 0 [.ref (ad 25)] ws (fun r w => r = some (.int (mChosen (T0 g)).1) ∧ WF E ad el (mChosen (T0 g)).2 ws w) := by
  refine Ct_of mw_X8_chosen rfl (Nat.le_of_ble_eq_true rfl) ?_
  have hw := WF.rf hw
  refine V_aload_n dX8_chosen_0 rfl ?_
  refine V_iconst (v := 0) dX8_chosen_1 (by decide) ?_
  refine W_put (25) hw (by decide) fp_X8_71 dX8_chosen_2 rfl rfl rfl rfl (Nat.le_of_ble_eq_true rfl) (fun ws1 hw1 => ?_)
  have hw1 : WF E ad el (T0 g) ws ws1 := hw1
  refine V_aload_n dX8_chosen_5 rfl ?_
  refine V_get (25) fl_X8_78 dX8_chosen_6 hw1.p25 rfl ?_
  refine V_if_eq 19 dX8_chosen_9 (by decide) (fun h9 => ?_) (fun h9 => ?_)
  · skip
    refine V_iconst (v := -1) dX8_chosen_19 (by decide) ?_
    refine V_iret dX8_chosen_20 rfl (by decide) (by decide) ?_
    exact fin2 (by rw [mChosen, if_pos h9]; try rfl) hw1
  · skip
    refine V_aload_n dX8_chosen_12 rfl ?_
    refine V_get (25) fl_X8_90 dX8_chosen_13 hw1.p25 rfl ?_
    refine V_goto 20 dX8_chosen_16 (by decide) ?_
    refine V_iret dX8_chosen_20 rfl (by decide) (by decide) ?_
    exact fin2 (by rw [mChosen, if_neg h9]; try rfl) hw1
set_option maxHeartbeats 4000000 in
set_option maxRecDepth 20000 in
theorem ct_X8_worth (hw : Wd E ad el g ws) {nP : Nat} (hP : g 25 19 = nI nP) (hP10 : nP ≤ 10) (hC : MCOK g) : Ct E yX8_worth cX8_worth 1 (some (.int)) 2 0 0 [.ref (ad 25)] ws (fun r w => r = some (.int (mWorthF (T0 g) nP).1) ∧ WF E ad el (mWorthF (T0 g) nP).2 ws w) := by
  refine Ct_of mw_X8_worth rfl (Nat.le_of_ble_eq_true rfl) ?_
  have hw := WF.rf hw
  have hsum : ¬ T0 g 25 25 = 0 → ∀ {v w : va_W}, WF E ad el (T0 g) v w → Ct E yX8_worthOf cX8_worthOf 4 (some (.int)) 1 0 0 [.ref (ad 25), .int (T0 g 25 24)] w (fun r w9 => r = some (.int (mSum (T0 g) nP (T0 g 25 24).toNatClampNeg)) ∧ w9 = w) := by
    intro h v w hw
    obtain ⟨C, hC1, hC2⟩ := hC h
    rw [show T0 g 25 24 = nI C from hC2, nI_clamp (by omega)]
    exact ct_X8_worthOf hw hP hP10 hC1
  refine V_aload_n dX8_worth_0 rfl ?_
  refine V_iconst (v := 0) dX8_worth_1 (by decide) ?_
  refine W_put (25) hw (by decide) fp_X8_71 dX8_worth_2 rfl rfl rfl rfl (Nat.le_of_ble_eq_true rfl) (fun ws1 hw1 => ?_)
  have hw1 : WF E ad el (T0 g) ws ws1 := hw1
  refine V_aload_n dX8_worth_5 rfl ?_
  refine V_get (25) fl_X8_78 dX8_worth_6 hw1.p25 rfl ?_
  refine V_if_eq 23 dX8_worth_9 (by decide) (fun h9 => ?_) (fun h9 => ?_)
  · skip
    refine V_iconst (v := -1) dX8_worth_23 (by decide) ?_
    refine V_iret dX8_worth_24 rfl (by decide) (by decide) ?_
    exact fin2 (by rw [mWorthF, if_pos h9]; try rfl) hw1
  · skip
    refine V_aload_n dX8_worth_12 rfl ?_
    refine V_aload_n dX8_worth_13 rfl ?_
    refine V_get (25) fl_X8_90 dX8_worth_14 hw1.p25 rfl ?_
    refine V_rdV (25) mw_X8_worthOf mv_X8_124 dX8_worth_17 (hsum h9 hw1) hw1.p25 rfl rfl rfl (Nat.le_of_ble_eq_true rfl) (by decide) (by decide) (by decide) (by decide) ?_
    refine V_goto 24 dX8_worth_20 (by decide) ?_
    refine V_iret dX8_worth_24 rfl (by decide) (by decide) ?_
    exact fin2 (by rw [mWorthF, if_neg h9]; try rfl) hw1
set_option maxHeartbeats 4000000 in
set_option maxRecDepth 20000 in
theorem ct_X8_why (hw : Wd E ad el g ws) {nP : Nat} (hP : g 25 19 = nI nP) (hP10 : nP ≤ 10) {nN : Nat} (hN : g 25 20 = nI nN) (hN30 : nN ≤ 30) (hok : MNOK g nN) {nT : Nat} (hT : g 25 21 = nI nT) (hT12 : nT ≤ 12) (p : Int32) : Ct E yX8_why cX8_why 3 (some (.int)) 3 0 0 [.ref (ad 25), .int p] ws (fun r w => r = some (.int (mWhy (T0 g) nN nT p).1) ∧ WF E ad el (mWhy (T0 g) nN nT p).2 ws w) := by
  refine Ct_of mw_X8_why rfl (Nat.le_of_ble_eq_true rfl) ?_
  have hw := WF.rf hw
  refine V_aload_n dX8_why_0 rfl ?_
  refine V_iconst (v := 0) dX8_why_1 (by decide) ?_
  refine W_put (25) hw (by decide) fp_X8_71 dX8_why_2 rfl rfl rfl rfl (Nat.le_of_ble_eq_true rfl) (fun ws1 hw1 => ?_)
  have hw1 : WF E ad el (T0 g) ws ws1 := hw1
  refine V_aload_n dX8_why_5 rfl ?_
  refine V_get (25) fl_X8_78 dX8_why_6 hw1.p25 rfl ?_
  refine V_if_eq 41 dX8_why_9 (by decide) (fun h9 => ?_) (fun h9 => ?_)
  · skip
    refine V_iconst (v := -1) dX8_why_41 (by decide) ?_
    refine V_iret dX8_why_42 rfl (by decide) (by decide) ?_
    exact fin2 (by rw [mWhy, if_pos h9]; try rfl) hw1
  · skip
    refine V_aload_n dX8_why_12 rfl ?_
    refine V_iload_n dX8_why_13 rfl ?_
    refine V_rdV (25) mw_X8_isPart mv_X8_86 dX8_why_14 (ct_X8_isPart hw1 p) hw1.p25 rfl rfl rfl (Nat.le_of_ble_eq_true rfl) (by decide) (by decide) (by decide) (by decide) ?_
    refine V_if_eq 41 dX8_why_17 (by decide) (fun h17 => ?_) (fun h17 => ?_)
    · skip
      refine V_iconst (v := -1) dX8_why_41 (by decide) ?_
      refine V_iret dX8_why_42 rfl (by decide) (by decide) ?_
      exact fin2 (by rw [mWhy, if_neg h9, if_neg (nb (bI_0 h17))]; try rfl) hw1
    · skip
      refine V_aload_n dX8_why_20 rfl ?_
      refine V_get (25) fl_X8_13 dX8_why_21 hw1.p25 rfl ?_
      refine V_iload_n dX8_why_24 rfl ?_
      refine V_iald (27) dX8_why_25 hw1.p27 (by obtain ⟨j, hj, rfl⟩ := mIsPt_in (g := T0 g) hP hP10 (bI_1 h17); exact vp_in_nI (by omega) (by decide)) ?_
      refine V_iconst (v := -1) dX8_why_26 (by decide) ?_
      refine V_icmp_eq 41 dX8_why_27 (by decide) (fun h27 => ?_) (fun h27 => ?_)
      · skip
        refine V_iconst (v := -1) dX8_why_41 (by decide) ?_
        refine V_iret dX8_why_42 rfl (by decide) (by decide) ?_
        exact fin2 (by rw [mWhy, if_neg h9, if_pos (bI_1 h17), if_pos h27]; try rfl) hw1
      · skip
        refine V_aload_n dX8_why_30 rfl ?_
        refine V_get (25) fl_X8_90 dX8_why_31 hw1.p25 rfl ?_
        refine V_iload_n dX8_why_34 rfl ?_
        refine V_rdS mw_X8_isOf ms_X8_93 dX8_why_35 (ct_X8_isOf _ _) rfl rfl (Nat.le_of_ble_eq_true rfl) (by decide) (by decide) (by decide) (by decide) ?_
        refine V_if_eq 43 dX8_why_38 (by decide) (fun h38 => ?_) (fun h38 => ?_)
        · skip
          refine V_aload_n dX8_why_43 rfl ?_
          refine V_get (25) fl_X8_90 dX8_why_44 hw1.p25 rfl ?_
          refine V_iconst (v := 1) dX8_why_47 (by decide) ?_
          refine V_iload_n dX8_why_48 rfl ?_
          refine V_ishl dX8_why_49 ?_
          refine V_ior dX8_why_50 ?_
          refine V_istore_n dX8_why_51 (by decide) ?_
          refine V_aload_n dX8_why_52 rfl ?_
          refine V_iload_n dX8_why_53 rfl ?_
          refine V_rdV (25) mw_X8_broken mv_X8_114 dX8_why_54 (ct_X8_broken (g := T0 g) hw1 hN hN30 hok _) hw1.p25 rfl rfl rfl (Nat.le_of_ble_eq_true rfl) (by decide) (by decide) (by decide) (by decide) ?_
          refine V_iconst (v := -1) dX8_why_57 (by decide) ?_
          refine V_icmp_eq 70 dX8_why_58 (by decide) (fun h58 => ?_) (fun h58 => ?_)
          · skip
            refine V_aload_n dX8_why_70 rfl ?_
            refine V_iload_n dX8_why_71 rfl ?_
            refine V_rdV (25) mw_X8_redOf mv_X8_118 dX8_why_72 (ct_X8_redOf hw1 hT hT12 _) hw1.p25 rfl rfl rfl (Nat.le_of_ble_eq_true rfl) (by decide) (by decide) (by decide) (by decide) ?_
            refine V_iconst (v := -1) dX8_why_75 (by decide) ?_
            refine V_icmp_eq 91 dX8_why_76 (by decide) (fun h76 => ?_) (fun h76 => ?_)
            · skip
              refine V_iconst (v := 0) dX8_why_91 (by decide) ?_
              refine V_iret dX8_why_92 rfl (by decide) (by decide) ?_
              exact fin2 (by rw [mWhy, if_neg h9, if_pos (bI_1 h17), if_neg h27, if_neg (nb (bI_0 h38)), if_pos h58, if_pos h76]; try rfl) hw1
            · skip
              refine V_sipush (v := 200) dX8_why_79 (by decide) ?_
              refine V_aload_n dX8_why_82 rfl ?_
              refine V_iload_n dX8_why_83 rfl ?_
              refine V_rdV (25) mw_X8_redOf mv_X8_118 dX8_why_84 (ct_X8_redOf hw1 hT hT12 _) hw1.p25 rfl rfl rfl (Nat.le_of_ble_eq_true rfl) (by decide) (by decide) (by decide) (by decide) ?_
              refine V_iadd dX8_why_87 ?_
              refine V_goto 92 dX8_why_88 (by decide) ?_
              refine V_iret dX8_why_92 rfl (by decide) (by decide) ?_
              exact fin2 (by rw [mWhy, if_neg h9, if_pos (bI_1 h17), if_neg h27, if_neg (nb (bI_0 h38)), if_pos h58, if_neg h76]; try rfl) hw1
          · skip
            refine V_bipush (v := 100) dX8_why_61 (by decide) ?_
            refine V_aload_n dX8_why_63 rfl ?_
            refine V_iload_n dX8_why_64 rfl ?_
            refine V_rdV (25) mw_X8_broken mv_X8_114 dX8_why_65 (ct_X8_broken (g := T0 g) hw1 hN hN30 hok _) hw1.p25 rfl rfl rfl (Nat.le_of_ble_eq_true rfl) (by decide) (by decide) (by decide) (by decide) ?_
            refine V_iadd dX8_why_68 ?_
            refine V_iret dX8_why_69 rfl (by decide) (by decide) ?_
            exact fin2 (by rw [mWhy, if_neg h9, if_pos (bI_1 h17), if_neg h27, if_neg (nb (bI_0 h38)), if_neg h58]; try rfl) hw1
        · skip
          refine V_iconst (v := -1) dX8_why_41 (by decide) ?_
          refine V_iret dX8_why_42 rfl (by decide) (by decide) ?_
          exact fin2 (by rw [mWhy, if_neg h9, if_pos (bI_1 h17), if_neg h27, if_pos (bI_1 h38)]; try rfl) hw1
set_option maxHeartbeats 4000000 in
set_option maxRecDepth 20000 in
theorem ct_X8_tries (hw : Wd E ad el g ws) {nP : Nat} (hP : g 25 19 = nI nP) (hP10 : nP ≤ 10) (p v u : Int32) : Ct E yX8_tries cX8_tries 4 (some (.boolean)) 1 0 0 [.ref (ad 25), .int p, .int v, .int u] ws (fun r w => r = some (.int (bI (mMay (T0 g) p v u))) ∧ WF E ad el (if mMay (T0 g) p v u = true then tryG (T0 g) p v u else T0 g) ws w) := by
  refine Ct_of mw_X8_tries rfl (Nat.le_of_ble_eq_true rfl) ?_
  have hw := WF.rf hw
  refine V_aload_n dX8_tries_0 rfl ?_
  refine V_iconst (v := 0) dX8_tries_1 (by decide) ?_
  refine W_put (25) hw (by decide) fp_X8_71 dX8_tries_2 rfl rfl rfl rfl (Nat.le_of_ble_eq_true rfl) (fun ws1 hw1 => ?_)
  have hw1 : WF E ad el (T0 g) ws ws1 := hw1
  refine V_aload_n dX8_tries_5 rfl ?_
  refine V_get (25) fl_X8_78 dX8_tries_6 hw1.p25 rfl ?_
  refine V_if_eq 63 dX8_tries_9 (by decide) (fun h9 => ?_) (fun h9 => ?_)
  · skip
    refine V_iconst (v := 0) dX8_tries_63 (by decide) ?_
    refine V_zret dX8_tries_64 rfl (by first | exact Or.inl rfl | exact Or.inr rfl) (by decide) (by decide) ?_
    have c : mMay (T0 g) p v u = false := by simp [mMay, h9]
    exact ⟨by rw [c]; rfl, by rw [if_neg (nb c)]; exact hw1⟩
  · skip
    refine V_aload_n dX8_tries_12 rfl ?_
    refine V_iload_n dX8_tries_13 rfl ?_
    refine V_rdV (25) mw_X8_isPart mv_X8_86 dX8_tries_14 (ct_X8_isPart hw1 p) hw1.p25 rfl rfl rfl (Nat.le_of_ble_eq_true rfl) (by decide) (by decide) (by decide) (by decide) ?_
    refine V_if_eq 63 dX8_tries_17 (by decide) (fun h17 => ?_) (fun h17 => ?_)
    · skip
      refine V_iconst (v := 0) dX8_tries_63 (by decide) ?_
      refine V_zret dX8_tries_64 rfl (by first | exact Or.inl rfl | exact Or.inr rfl) (by decide) (by decide) ?_
      have c : mMay (T0 g) p v u = false := by simp [mMay, h9, bI_0 h17]
      exact ⟨by rw [c]; rfl, by rw [if_neg (nb c)]; exact hw1⟩
    · skip
      refine V_iload_n dX8_tries_20 rfl ?_
      refine V_iconst (v := 0) dX8_tries_21 (by decide) ?_
      refine V_sipush (v := 1000) dX8_tries_22 (by decide) ?_
      refine V_rdS mw_X8_isIn ms_X8_82 dX8_tries_25 (ct_X8_isIn _ _ _) rfl rfl (Nat.le_of_ble_eq_true rfl) (by decide) (by decide) (by decide) (by decide) ?_
      refine V_if_eq 63 dX8_tries_28 (by decide) (fun h28 => ?_) (fun h28 => ?_)
      · skip
        refine V_iconst (v := 0) dX8_tries_63 (by decide) ?_
        refine V_zret dX8_tries_64 rfl (by first | exact Or.inl rfl | exact Or.inr rfl) (by decide) (by decide) ?_
        have c : mMay (T0 g) p v u = false := by simp [mMay, h9, bI_1 h17, bI_0 h28]
        exact ⟨by rw [c]; rfl, by rw [if_neg (nb c)]; exact hw1⟩
      · skip
        refine V_iload_n dX8_tries_31 rfl ?_
        refine V_iconst (v := 1) dX8_tries_32 (by decide) ?_
        refine V_sipush (v := 1000) dX8_tries_33 (by decide) ?_
        refine V_rdS mw_X8_isIn ms_X8_82 dX8_tries_36 (ct_X8_isIn _ _ _) rfl rfl (Nat.le_of_ble_eq_true rfl) (by decide) (by decide) (by decide) (by decide) ?_
        refine V_if_eq 63 dX8_tries_39 (by decide) (fun h39 => ?_) (fun h39 => ?_)
        · skip
          refine V_iconst (v := 0) dX8_tries_63 (by decide) ?_
          refine V_zret dX8_tries_64 rfl (by first | exact Or.inl rfl | exact Or.inr rfl) (by decide) (by decide) ?_
          have c : mMay (T0 g) p v u = false := by simp [mMay, h9, bI_1 h17, bI_1 h28, bI_0 h39]
          exact ⟨by rw [c]; rfl, by rw [if_neg (nb c)]; exact hw1⟩
        · skip
          refine V_aload_n dX8_tries_42 rfl ?_
          refine V_get (25) fl_X8_90 dX8_tries_43 hw1.p25 rfl ?_
          refine V_iload_n dX8_tries_46 rfl ?_
          refine V_rdS mw_X8_isOf ms_X8_93 dX8_tries_47 (ct_X8_isOf _ _) rfl rfl (Nat.le_of_ble_eq_true rfl) (by decide) (by decide) (by decide) (by decide) ?_
          refine V_if_ne 63 dX8_tries_50 (by decide) (fun h50 => ?_) (fun h50 => ?_)
          · skip
            refine V_iconst (v := 0) dX8_tries_63 (by decide) ?_
            refine V_zret dX8_tries_64 rfl (by first | exact Or.inl rfl | exact Or.inr rfl) (by decide) (by decide) ?_
            have c : mMay (T0 g) p v u = false := by simp [mMay, h9, bI_1 h17, bI_1 h28, bI_1 h39, bI_1 h50]
            exact ⟨by rw [c]; rfl, by rw [if_neg (nb c)]; exact hw1⟩
          · skip
            refine V_iload_n dX8_tries_53 rfl ?_
            refine V_aload_n dX8_tries_54 rfl ?_
            refine V_get (25) fl_X8_9 dX8_tries_55 hw1.p25 rfl ?_
            refine V_iload_n dX8_tries_58 rfl ?_
            refine V_iald (26) dX8_tries_59 hw1.p26 (by obtain ⟨j, hj, rfl⟩ := mIsPt_in (g := T0 g) hP hP10 (bI_1 h17); exact vp_in_nI (by omega) (by decide)) ?_
            refine V_icmp_ne 65 dX8_tries_60 (by decide) (fun h60 => ?_) (fun h60 => ?_)
            · skip
              refine V_aload_n dX8_tries_65 rfl ?_
              refine V_aload_n dX8_tries_66 rfl ?_
              refine V_get (25) fl_X8_13 dX8_tries_67 hw1.p25 rfl ?_
              refine V_iload_n dX8_tries_70 rfl ?_
              refine V_iald (27) dX8_tries_71 hw1.p27 (by obtain ⟨j, hj, rfl⟩ := mIsPt_in (g := T0 g) hP hP10 (bI_1 h17); exact vp_in_nI (by omega) (by decide)) ?_
              refine W_put (25) hw1 (by decide) fp_X8_130 dX8_tries_72 rfl rfl rfl rfl (Nat.le_of_ble_eq_true rfl) (fun ws2 hw2 => ?_)
              refine V_aload_n dX8_tries_75 rfl ?_
              refine V_aload_n dX8_tries_76 rfl ?_
              refine V_get (25) fl_X8_16 dX8_tries_77 hw2.p25 rfl ?_
              refine V_iload_n dX8_tries_80 rfl ?_
              refine V_iald (28) dX8_tries_81 hw2.p28 (by obtain ⟨j, hj, rfl⟩ := mIsPt_in (g := T0 g) hP hP10 (bI_1 h17); exact vp_in_nI (by omega) (by decide)) ?_
              refine W_put (25) hw2 (by decide) fp_X8_133 dX8_tries_82 rfl rfl rfl rfl (Nat.le_of_ble_eq_true rfl) (fun ws3 hw3 => ?_)
              refine V_aload_n dX8_tries_85 rfl ?_
              refine V_get (25) fl_X8_13 dX8_tries_86 hw3.p25 rfl ?_
              refine V_iload_n dX8_tries_89 rfl ?_
              refine V_iload_n dX8_tries_90 rfl ?_
              refine W_iast (27) hw3 (by decide) (fun _ => rfl) dX8_tries_91 (by obtain ⟨j, hj, rfl⟩ := mIsPt_in (g := T0 g) hP hP10 (bI_1 h17); exact vp_in_nI (by omega) (by decide)) (fun ws4 hw4 => ?_)
              refine V_aload_n dX8_tries_92 rfl ?_
              refine V_get (25) fl_X8_16 dX8_tries_93 hw4.p25 rfl ?_
              refine V_iload_n dX8_tries_96 rfl ?_
              refine V_iload_n dX8_tries_97 rfl ?_
              refine W_iast (28) hw4 (by decide) (fun _ => rfl) dX8_tries_98 (by obtain ⟨j, hj, rfl⟩ := mIsPt_in (g := T0 g) hP hP10 (bI_1 h17); exact vp_in_nI (by omega) (by decide)) (fun ws5 hw5 => ?_)
              refine V_iconst (v := 1) dX8_tries_99 (by decide) ?_
              refine V_zret dX8_tries_100 rfl (by first | exact Or.inl rfl | exact Or.inr rfl) (by decide) (by decide) ?_
              have c : mMay (T0 g) p v u = true := by simp [mMay, h9, bI_1 h17, bI_1 h28, bI_1 h39, bI_0 h50, h60]
              exact ⟨by rw [c]; rfl, by rw [if_pos c]; exact hw5⟩
            · skip
              refine V_iconst (v := 0) dX8_tries_63 (by decide) ?_
              refine V_zret dX8_tries_64 rfl (by first | exact Or.inl rfl | exact Or.inr rfl) (by decide) (by decide) ?_
              have c : mMay (T0 g) p v u = false := by simp [mMay, h9, bI_1 h17, bI_1 h28, bI_1 h39, bI_0 h50, h60]
              exact ⟨by rw [c]; rfl, by rw [if_neg (nb c)]; exact hw1⟩
set_option maxHeartbeats 4000000 in
set_option maxRecDepth 20000 in
theorem ct_X8_fix (hw : Wd E ad el g ws) {nP : Nat} (hP : g 25 19 = nI nP) (hP10 : nP ≤ 10) {nN : Nat} (hN : g 25 20 = nI nN) (hN30 : nN ≤ 30) (hok : MNOK g nN) {nT : Nat} (hT : g 25 21 = nI nT) (hT12 : nT ≤ 12) (p v u : Int32) : Ct E yX8_fix cX8_fix 4 (some (.int)) 4 0 0 [.ref (ad 25), .int p, .int v, .int u] ws (fun r w => r = some (.int (mFix (T0 g) nP nN nT p v u).1) ∧ WF E ad el (mFix (T0 g) nP nN nT p v u).2 ws w) := by
  refine Ct_of mw_X8_fix rfl (Nat.le_of_ble_eq_true rfl) ?_
  have hw := WF.rf hw
  refine V_aload_n dX8_fix_0 rfl ?_
  refine V_iload_n dX8_fix_1 rfl ?_
  refine V_iload_n dX8_fix_2 rfl ?_
  refine V_iload_n dX8_fix_3 rfl ?_
  refine V_callV (25) mw_X8_tries mv_X8_136 dX8_fix_4 (ct_X8_tries hw.1 hP hP10 p v u) hw.p25 rfl rfl rfl (Nat.le_of_ble_eq_true rfl) (by decide) (by decide) (by decide) (by decide) (fun r4 ws1 hp4 => ?_)
  obtain ⟨rfl, hw1⟩ := hp4
  have hw1 := hw.trans hw1
  refine V_if_ne 12 dX8_fix_7 (by decide) (fun h7 => ?_) (fun h7 => ?_)
  · skip
    rw [if_pos (bI_1 h7)] at hw1
    refine V_aload_n dX8_fix_12 rfl ?_
    refine V_aload_n dX8_fix_13 rfl ?_
    refine V_get (25) fl_X8_90 dX8_fix_14 hw1.p25 rfl ?_
    refine V_iconst (v := 1) dX8_fix_17 (by decide) ?_
    refine V_iload_n dX8_fix_18 rfl ?_
    refine V_ishl dX8_fix_19 ?_
    refine V_ior dX8_fix_20 ?_
    refine V_rdV (25) mw_X8_goes mv_X8_121 dX8_fix_21 (ct_X8_goes (g := tryG (T0 g) p v u) hw1 hP hP10 hN hN30 (hok.to rfl rfl) hT hT12 (orM (T0 g) p)) hw1.p25 rfl rfl rfl (Nat.le_of_ble_eq_true rfl) (by decide) (by decide) (by decide) (by decide) ?_
    refine V_if_eq 41 dX8_fix_24 (by decide) (fun h24 => ?_) (fun h24 => ?_)
    · skip
      refine V_aload_n dX8_fix_41 rfl ?_
      refine V_get (25) fl_X8_13 dX8_fix_42 hw1.p25 rfl ?_
      refine V_iload_n dX8_fix_45 rfl ?_
      refine V_aload_n dX8_fix_46 rfl ?_
      refine V_get (25) fl_X8_130 dX8_fix_47 hw1.p25 rfl ?_
      refine W_iast (27) hw1 (by decide) (fun _ => rfl) dX8_fix_50 (by obtain ⟨j, hj, rfl⟩ := mIsPt_in (g := T0 g) hP hP10 (mMay_pt (bI_1 h7)).2; exact vp_in_nI (by omega) (by decide)) (fun ws2 hw2 => ?_)
      refine V_aload_n dX8_fix_51 rfl ?_
      refine V_get (25) fl_X8_16 dX8_fix_52 hw2.p25 rfl ?_
      refine V_iload_n dX8_fix_55 rfl ?_
      refine V_aload_n dX8_fix_56 rfl ?_
      refine V_get (25) fl_X8_133 dX8_fix_57 hw2.p25 rfl ?_
      refine W_iast (28) hw2 (by decide) (fun _ => rfl) dX8_fix_60 (by obtain ⟨j, hj, rfl⟩ := mIsPt_in (g := T0 g) hP hP10 (mMay_pt (bI_1 h7)).2; exact vp_in_nI (by omega) (by decide)) (fun ws3 hw3 => ?_)
      refine V_iconst (v := 0) dX8_fix_61 (by decide) ?_
      refine V_iret dX8_fix_62 rfl (by decide) (by decide) ?_
      exact fin2 (by rw [mFix, if_pos (bI_1 h7), if_neg (nb (bI_0 h24))]; try rfl) hw3
    · skip
      refine V_aload_n dX8_fix_27 rfl ?_
      refine V_dup dX8_fix_28 rfl ?_
      refine V_get (25) fl_X8_90 dX8_fix_29 hw1.p25 rfl ?_
      refine V_iconst (v := 1) dX8_fix_32 (by decide) ?_
      refine V_iload_n dX8_fix_33 rfl ?_
      refine V_ishl dX8_fix_34 ?_
      refine V_ior dX8_fix_35 ?_
      refine W_put (25) hw1 (by decide) fp_X8_90 dX8_fix_36 rfl rfl rfl rfl (Nat.le_of_ble_eq_true rfl) (fun ws2 hw2 => ?_)
      refine V_iconst (v := 1) dX8_fix_39 (by decide) ?_
      refine V_iret dX8_fix_40 rfl (by decide) (by decide) ?_
      exact fin2 (by rw [mFix, if_pos (bI_1 h7), if_pos (bI_1 h24)]; try rfl) hw2
  · skip
    rw [if_neg (nb (bI_0 h7))] at hw1
    refine V_iconst (v := -1) dX8_fix_10 (by decide) ?_
    refine V_iret dX8_fix_11 rfl (by decide) (by decide) ?_
    exact fin2 (by rw [mFix, if_neg (nb (bI_0 h7))]; try rfl) hw1
set_option maxHeartbeats 4000000 in
set_option maxRecDepth 20000 in
theorem ct_X8_leave (hw : Wd E ad el g ws) {nP : Nat} (hP : g 25 19 = nI nP) (hP10 : nP ≤ 10) {nN : Nat} (hN : g 25 20 = nI nN) (hN30 : nN ≤ 30) (hok : MNOK g nN) {nT : Nat} (hT : g 25 21 = nI nT) (hT12 : nT ≤ 12) (hC : MCOK g) (p v u : Int32) : Ct E yX8_leave cX8_leave 5 (some (.int)) 5 0 0 [.ref (ad 25), .int p, .int v, .int u] ws (fun r w => r = some (.int (mLeave (T0 g) nP nN nT p v u).1) ∧ WF E ad el (mLeave (T0 g) nP nN nT p v u).2 ws w) := by
  refine Ct_of mw_X8_leave rfl (Nat.le_of_ble_eq_true rfl) ?_
  have hw := WF.rf hw
  have hbst : mMay (T0 g) p v u = true → ∀ {v1 w : va_W}, WF E ad el (tryG (T0 g) p v u) v1 w → Ct E yX8_best cX8_best 6 (some (.int)) 4 0 0 [.ref (ad 25), .int ((1 : Int32) <<< (p &&& 31)), .int (orM (T0 g) p)] w (fun r w9 => r = some (.int (sI (mLvS (T0 g) nP nN nT p v u))) ∧ w9 = w) := by
    intro h v1 w hw
    obtain ⟨j, C, hj, hC1, -, -, e2, e3⟩ := orM_set (g := T0 g) hP hP10 hC h
    have hS := or_lt hC1 (show j < 10 by omega)
    have hU : 2 ^ j < 2 ^ 10 := Nat.pow_lt_pow_right (by decide) (by omega)
    unfold mLvS
    rw [e2, e3, nI_clamp (by omega), nI_clamp (by omega)]
    exact ct_X8_best (g := tryG (T0 g) p v u) hw hP hP10 hN hN30 (hok.to rfl rfl) hT hT12 hU hS
  refine V_aload_n dX8_leave_0 rfl ?_
  refine V_iload_n dX8_leave_1 rfl ?_
  refine V_iload_n dX8_leave_2 rfl ?_
  refine V_iload_n dX8_leave_3 rfl ?_
  refine V_callV (25) mw_X8_tries mv_X8_136 dX8_leave_4 (ct_X8_tries hw.1 hP hP10 p v u) hw.p25 rfl rfl rfl (Nat.le_of_ble_eq_true rfl) (by decide) (by decide) (by decide) (by decide) (fun r4 ws1 hp4 => ?_)
  obtain ⟨rfl, hw1⟩ := hp4
  have hw1 := hw.trans hw1
  refine V_if_ne 12 dX8_leave_7 (by decide) (fun h7 => ?_) (fun h7 => ?_)
  · skip
    rw [if_pos (bI_1 h7)] at hw1
    refine V_aload_n dX8_leave_12 rfl ?_
    refine V_iconst (v := 1) dX8_leave_13 (by decide) ?_
    refine V_iload_n dX8_leave_14 rfl ?_
    refine V_ishl dX8_leave_15 ?_
    refine V_aload_n dX8_leave_16 rfl ?_
    refine V_get (25) fl_X8_90 dX8_leave_17 hw1.p25 rfl ?_
    refine V_iconst (v := 1) dX8_leave_20 (by decide) ?_
    refine V_iload_n dX8_leave_21 rfl ?_
    refine V_ishl dX8_leave_22 ?_
    refine V_ior dX8_leave_23 ?_
    refine V_rdV (25) mw_X8_best mv_X8_127 dX8_leave_24 (hbst (bI_1 h7) hw1) hw1.p25 rfl rfl rfl (Nat.le_of_ble_eq_true rfl) (by decide) (by decide) (by decide) (by decide) ?_
    refine V_istore dX8_leave_27 (by decide) ?_
    refine V_aload_n dX8_leave_29 rfl ?_
    refine V_get (25) fl_X8_13 dX8_leave_30 hw1.p25 rfl ?_
    refine V_iload_n dX8_leave_33 rfl ?_
    refine V_aload_n dX8_leave_34 rfl ?_
    refine V_get (25) fl_X8_130 dX8_leave_35 hw1.p25 rfl ?_
    refine W_iast (27) hw1 (by decide) (fun _ => rfl) dX8_leave_38 (by obtain ⟨j, hj, rfl⟩ := mIsPt_in (g := T0 g) hP hP10 (mMay_pt (bI_1 h7)).2; exact vp_in_nI (by omega) (by decide)) (fun ws2 hw2 => ?_)
    refine V_aload_n dX8_leave_39 rfl ?_
    refine V_get (25) fl_X8_16 dX8_leave_40 hw2.p25 rfl ?_
    refine V_iload_n dX8_leave_43 rfl ?_
    refine V_aload_n dX8_leave_44 rfl ?_
    refine V_get (25) fl_X8_133 dX8_leave_45 hw2.p25 rfl ?_
    refine W_iast (28) hw2 (by decide) (fun _ => rfl) dX8_leave_48 (by obtain ⟨j, hj, rfl⟩ := mIsPt_in (g := T0 g) hP hP10 (mMay_pt (bI_1 h7)).2; exact vp_in_nI (by omega) (by decide)) (fun ws3 hw3 => ?_)
    refine V_iload dX8_leave_49 rfl ?_
    refine V_iconst (v := -1) dX8_leave_51 (by decide) ?_
    refine V_icmp_ne 59 dX8_leave_52 (by decide) (fun h52 => ?_) (fun h52 => ?_)
    · skip
      refine V_aload_n dX8_leave_59 rfl ?_
      refine V_get (25) fl_X8_90 dX8_leave_60 hw3.p25 rfl ?_
      refine V_iload dX8_leave_63 rfl ?_
      refine V_iconst (v := -1) dX8_leave_65 (by decide) ?_
      refine V_ixor dX8_leave_66 ?_
      refine V_iand dX8_leave_67 ?_
      refine V_iret dX8_leave_68 rfl (by decide) (by decide) ?_
      exact fin2 (by rw [mLeave, if_pos (bI_1 h7), if_neg h52]; rfl) hw3
    · skip
      refine V_iconst (v := -1) dX8_leave_55 (by decide) ?_
      refine V_goto 68 dX8_leave_56 (by decide) ?_
      refine V_iret dX8_leave_68 rfl (by decide) (by decide) ?_
      exact fin2 (by rw [mLeave, if_pos (bI_1 h7), if_pos h52]; try rfl) hw3
  · skip
    rw [if_neg (nb (bI_0 h7))] at hw1
    refine V_iconst (v := -1) dX8_leave_10 (by decide) ?_
    refine V_iret dX8_leave_11 rfl (by decide) (by decide) ?_
    exact fin2 (by rw [mLeave, if_neg (nb (bI_0 h7))]; try rfl) hw1
end MD2
