/-! ===== TrainDesk: its small methods ===== -/
def isVer (v : Int32) : Bool := !decide (v < 0) && !decide (1000 < v)
def isWor (v : Int32) : Bool := !decide (v < 1) && !decide (1000 < v)
def isPt (g : Nat → Nat → Int32) (p : Int32) : Bool := !decide (p < 0) && !decide (g 0 9 ≤ p)
def areP (g : Nat → Nat → Int32) (set : Int32) : Bool := decide (set &&& ((((1 : Int32) <<< (g 0 9 &&& 31)) - 1) ^^^ -1) = 0)
def cutB (g : Nat → Nat → Int32) : Bool := !decide (g 0 10 = -1)
def chB (g : Nat → Nat → Int32) (p : Int32) : Bool := cutB g && !decide ((g 0 10 >>> (p &&& 31)) &&& 1 = 0)
def mayB (g : Nat → Nat → Int32) (p v u : Int32) : Bool := cutB g && (isPt g p && (isVer v && (isWor u && (!chB g p && !decide (v = g 1 p.toNatClampNeg)))))
def lowerB (a b : Int32) : Bool := !decide (a &&& lowI (a ^^^ b) = 0)
def brkD (g : Nat → Nat → Int32) (nN : Nat) (set : Int32) : Int32 := fi (pBrk (g 14) (g 15) set) nN 0
def goesB (g : Nat → Nat → Int32) (nN nT : Nat) (set : Int32) : Bool := decide (fi (pBrk (g 14) (g 15) set) nN 0 = -1) && decide (fi (pRed (g 17) set) nT 0 = -1)
def chooseG (g : Nat → Nat → Int32) (nN S : Nat) : Nat → Nat → Int32 := planG (wTo (va_up g 0 (upd (g 0) 10 (nI S))) nN) nN S
theorem isPt_in {g : Nat → Nat → Int32} {p : Int32} {nP : Nat} (hP : g 0 9 = nI nP) (hP10 : nP ≤ 10) (h : isPt g p = true) : ∃ j, j < nP ∧ p = nI j := by
  simp only [isPt, Bool.and_eq_true, Bool.not_eq_true', decide_eq_false_iff_not] at h
  rcases pk_ix p (n := nP) (by omega) with q | q | q
  · exact absurd q h.1
  · exact absurd (by rw [hP]; exact q) h.2
  · exact q
section DK1
variable {E : VE} {ad : Nat → Nat} {el : Nat} {g : Nat → Nat → Int32} {w0 ws : va_W}
set_option maxHeartbeats 4000000 in
set_option maxRecDepth 20000 in
theorem ct_X7_isVersion (v : Int32) : Ct E yX7_isVersion cX7_isVersion 1 (some (.boolean)) 0 0 0 [.int v] ws (fun r w => r = some (.int (bI (isVer v))) ∧ w = ws) := by
  refine Ct_of mw_X7_isVersion rfl (Nat.le_of_ble_eq_true rfl) ?_
  refine V_iload_n dX7_isVersion_0 rfl ?_
  refine V_if_lt 15 dX7_isVersion_1 (by decide) (fun h1 => ?_) (fun h1 => ?_)
  · skip
    refine V_iconst (v := 0) dX7_isVersion_15 (by decide) ?_
    refine V_zret dX7_isVersion_16 rfl (by first | exact Or.inl rfl | exact Or.inr rfl) (by decide) (by decide) ?_
    exact ⟨by simp [bI, isVer, h1], rfl⟩
  · skip
    refine V_iload_n dX7_isVersion_4 rfl ?_
    refine V_sipush (v := 1000) dX7_isVersion_5 (by decide) ?_
    refine V_icmp_gt 15 dX7_isVersion_8 (by decide) (fun h8 => ?_) (fun h8 => ?_)
    · skip
      refine V_iconst (v := 0) dX7_isVersion_15 (by decide) ?_
      refine V_zret dX7_isVersion_16 rfl (by first | exact Or.inl rfl | exact Or.inr rfl) (by decide) (by decide) ?_
      exact ⟨by simp [bI, isVer, h1, h8], rfl⟩
    · skip
      refine V_iconst (v := 1) dX7_isVersion_11 (by decide) ?_
      refine V_goto 16 dX7_isVersion_12 (by decide) ?_
      refine V_zret dX7_isVersion_16 rfl (by first | exact Or.inl rfl | exact Or.inr rfl) (by decide) (by decide) ?_
      exact ⟨by simp [bI, isVer, h1, h8], rfl⟩
set_option maxHeartbeats 4000000 in
set_option maxRecDepth 20000 in
theorem ct_X7_isWorth (v : Int32) : Ct E yX7_isWorth cX7_isWorth 1 (some (.boolean)) 0 0 0 [.int v] ws (fun r w => r = some (.int (bI (isWor v))) ∧ w = ws) := by
  refine Ct_of mw_X7_isWorth rfl (Nat.le_of_ble_eq_true rfl) ?_
  refine V_iload_n dX7_isWorth_0 rfl ?_
  refine V_iconst (v := 1) dX7_isWorth_1 (by decide) ?_
  refine V_icmp_lt 16 dX7_isWorth_2 (by decide) (fun h2 => ?_) (fun h2 => ?_)
  · skip
    refine V_iconst (v := 0) dX7_isWorth_16 (by decide) ?_
    refine V_zret dX7_isWorth_17 rfl (by first | exact Or.inl rfl | exact Or.inr rfl) (by decide) (by decide) ?_
    exact ⟨by simp [bI, isWor, h2], rfl⟩
  · skip
    refine V_iload_n dX7_isWorth_5 rfl ?_
    refine V_sipush (v := 1000) dX7_isWorth_6 (by decide) ?_
    refine V_icmp_gt 16 dX7_isWorth_9 (by decide) (fun h9 => ?_) (fun h9 => ?_)
    · skip
      refine V_iconst (v := 0) dX7_isWorth_16 (by decide) ?_
      refine V_zret dX7_isWorth_17 rfl (by first | exact Or.inl rfl | exact Or.inr rfl) (by decide) (by decide) ?_
      exact ⟨by simp [bI, isWor, h2, h9], rfl⟩
    · skip
      refine V_iconst (v := 1) dX7_isWorth_12 (by decide) ?_
      refine V_goto 17 dX7_isWorth_13 (by decide) ?_
      refine V_zret dX7_isWorth_17 rfl (by first | exact Or.inl rfl | exact Or.inr rfl) (by decide) (by decide) ?_
      exact ⟨by simp [bI, isWor, h2, h9], rfl⟩
set_option maxHeartbeats 4000000 in
set_option maxRecDepth 20000 in
theorem ct_X7_isPart (hw : WF E ad el g w0 ws) (p : Int32) : Ct E yX7_isPart cX7_isPart 2 (some (.boolean)) 0 0 0 [.ref (ad 0), .int p] ws (fun r w => r = some (.int (bI (isPt g p))) ∧ w = ws) := by
  refine Ct_of mw_X7_isPart rfl (Nat.le_of_ble_eq_true rfl) ?_
  refine V_iload_n dX7_isPart_0 rfl ?_
  refine V_if_lt 16 dX7_isPart_1 (by decide) (fun h1 => ?_) (fun h1 => ?_)
  · skip
    refine V_iconst (v := 0) dX7_isPart_16 (by decide) ?_
    refine V_zret dX7_isPart_17 rfl (by first | exact Or.inl rfl | exact Or.inr rfl) (by decide) (by decide) ?_
    exact ⟨by simp [bI, isPt, h1], rfl⟩
  · skip
    refine V_iload_n dX7_isPart_4 rfl ?_
    refine V_aload_n dX7_isPart_5 rfl ?_
    refine V_get (0) fl_X7_65 dX7_isPart_6 hw.p0 rfl ?_
    refine V_icmp_ge 16 dX7_isPart_9 (by decide) (fun h9 => ?_) (fun h9 => ?_)
    · skip
      refine V_iconst (v := 0) dX7_isPart_16 (by decide) ?_
      refine V_zret dX7_isPart_17 rfl (by first | exact Or.inl rfl | exact Or.inr rfl) (by decide) (by decide) ?_
      exact ⟨by simp [bI, isPt, h1, h9], rfl⟩
    · skip
      refine V_iconst (v := 1) dX7_isPart_12 (by decide) ?_
      refine V_goto 17 dX7_isPart_13 (by decide) ?_
      refine V_zret dX7_isPart_17 rfl (by first | exact Or.inl rfl | exact Or.inr rfl) (by decide) (by decide) ?_
      exact ⟨by simp [bI, isPt, h1, h9], rfl⟩
set_option maxHeartbeats 4000000 in
set_option maxRecDepth 20000 in
theorem ct_X7_areParts (hw : WF E ad el g w0 ws) (set : Int32) : Ct E yX7_areParts cX7_areParts 2 (some (.boolean)) 0 0 0 [.ref (ad 0), .int set] ws (fun r w => r = some (.int (bI (areP g set))) ∧ w = ws) := by
  refine Ct_of mw_X7_areParts rfl (Nat.le_of_ble_eq_true rfl) ?_
  refine V_iload_n dX7_areParts_0 rfl ?_
  refine V_iconst (v := 1) dX7_areParts_1 (by decide) ?_
  refine V_aload_n dX7_areParts_2 rfl ?_
  refine V_get (0) fl_X7_65 dX7_areParts_3 hw.p0 rfl ?_
  refine V_ishl dX7_areParts_6 ?_
  refine V_iconst (v := 1) dX7_areParts_7 (by decide) ?_
  refine V_isub dX7_areParts_8 ?_
  refine V_iconst (v := -1) dX7_areParts_9 (by decide) ?_
  refine V_ixor dX7_areParts_10 ?_
  refine V_iand dX7_areParts_11 ?_
  refine V_if_ne 19 dX7_areParts_12 (by decide) (fun h12 => ?_) (fun h12 => ?_)
  · skip
    refine V_iconst (v := 0) dX7_areParts_19 (by decide) ?_
    refine V_zret dX7_areParts_20 rfl (by first | exact Or.inl rfl | exact Or.inr rfl) (by decide) (by decide) ?_
    exact ⟨by rw [areP, decide_eq_false h12]; rfl, rfl⟩
  · skip
    refine V_iconst (v := 1) dX7_areParts_15 (by decide) ?_
    refine V_goto 20 dX7_areParts_16 (by decide) ?_
    refine V_zret dX7_areParts_20 rfl (by first | exact Or.inl rfl | exact Or.inr rfl) (by decide) (by decide) ?_
    exact ⟨by rw [areP, decide_eq_true h12]; rfl, rfl⟩
set_option maxHeartbeats 4000000 in
set_option maxRecDepth 20000 in
theorem ct_X7_isCutAtHand (hw : WF E ad el g w0 ws) : Ct E yX7_isCutAtHand cX7_isCutAtHand 1 (some (.boolean)) 0 0 0 [.ref (ad 0)] ws (fun r w => r = some (.int (bI (cutB g))) ∧ w = ws) := by
  refine Ct_of mw_X7_isCutAtHand rfl (Nat.le_of_ble_eq_true rfl) ?_
  refine V_aload_n dX7_isCutAtHand_0 rfl ?_
  refine V_get (0) fl_X7_69 dX7_isCutAtHand_1 hw.p0 rfl ?_
  refine V_iconst (v := -1) dX7_isCutAtHand_4 (by decide) ?_
  refine V_icmp_eq 12 dX7_isCutAtHand_5 (by decide) (fun h5 => ?_) (fun h5 => ?_)
  · skip
    refine V_iconst (v := 0) dX7_isCutAtHand_12 (by decide) ?_
    refine V_zret dX7_isCutAtHand_13 rfl (by first | exact Or.inl rfl | exact Or.inr rfl) (by decide) (by decide) ?_
    exact ⟨by rw [cutB, decide_eq_true h5]; rfl, rfl⟩
  · skip
    refine V_iconst (v := 1) dX7_isCutAtHand_8 (by decide) ?_
    refine V_goto 13 dX7_isCutAtHand_9 (by decide) ?_
    refine V_zret dX7_isCutAtHand_13 rfl (by first | exact Or.inl rfl | exact Or.inr rfl) (by decide) (by decide) ?_
    exact ⟨by rw [cutB, decide_eq_false h5]; rfl, rfl⟩
set_option maxHeartbeats 4000000 in
set_option maxRecDepth 20000 in
theorem ct_X7_isChosen (hw : WF E ad el g w0 ws) (p : Int32) : Ct E yX7_isChosen cX7_isChosen 2 (some (.boolean)) 1 0 0 [.ref (ad 0), .int p] ws (fun r w => r = some (.int (bI (chB g p))) ∧ w = ws) := by
  refine Ct_of mw_X7_isChosen rfl (Nat.le_of_ble_eq_true rfl) ?_
  refine V_aload_n dX7_isChosen_0 rfl ?_
  refine V_rdV (0) mw_X7_isCutAtHand mv_X7_72 dX7_isChosen_1 (ct_X7_isCutAtHand hw) hw.p0 rfl rfl rfl (Nat.le_of_ble_eq_true rfl) (by decide) (by decide) (by decide) (by decide) ?_
  refine V_if_eq 22 dX7_isChosen_4 (by decide) (fun h4 => ?_) (fun h4 => ?_)
  · skip
    refine V_iconst (v := 0) dX7_isChosen_22 (by decide) ?_
    refine V_zret dX7_isChosen_23 rfl (by first | exact Or.inl rfl | exact Or.inr rfl) (by decide) (by decide) ?_
    exact ⟨by rw [chB, bI_0 h4]; rfl, rfl⟩
  · skip
    refine V_aload_n dX7_isChosen_7 rfl ?_
    refine V_get (0) fl_X7_69 dX7_isChosen_8 hw.p0 rfl ?_
    refine V_iload_n dX7_isChosen_11 rfl ?_
    refine V_ishr dX7_isChosen_12 ?_
    refine V_iconst (v := 1) dX7_isChosen_13 (by decide) ?_
    refine V_iand dX7_isChosen_14 ?_
    refine V_if_eq 22 dX7_isChosen_15 (by decide) (fun h15 => ?_) (fun h15 => ?_)
    · skip
      refine V_iconst (v := 0) dX7_isChosen_22 (by decide) ?_
      refine V_zret dX7_isChosen_23 rfl (by first | exact Or.inl rfl | exact Or.inr rfl) (by decide) (by decide) ?_
      exact ⟨by rw [chB, bI_1 h4, decide_eq_true h15]; rfl, rfl⟩
    · skip
      refine V_iconst (v := 1) dX7_isChosen_18 (by decide) ?_
      refine V_goto 23 dX7_isChosen_19 (by decide) ?_
      refine V_zret dX7_isChosen_23 rfl (by first | exact Or.inl rfl | exact Or.inr rfl) (by decide) (by decide) ?_
      exact ⟨by rw [chB, bI_1 h4, decide_eq_false h15]; rfl, rfl⟩
set_option maxHeartbeats 4000000 in
set_option maxRecDepth 20000 in
theorem ct_X7_homeToCome (hw : WF E ad el g w0 ws) {p : Int32} (hp : vp_in p 10) : Ct E yX7_homeToCome cX7_homeToCome 2 (some (.int)) 2 0 0 [.ref (ad 0), .int p] ws (fun r w => r = some (.int (if chB g p = true then at10 (g 3) p else g 1 p.toNatClampNeg)) ∧ w = ws) := by
  refine Ct_of mw_X7_homeToCome rfl (Nat.le_of_ble_eq_true rfl) ?_
  refine V_aload_n dX7_homeToCome_0 rfl ?_
  refine V_iload_n dX7_homeToCome_1 rfl ?_
  refine V_rdV (0) mw_X7_isChosen mv_X7_134 dX7_homeToCome_2 (ct_X7_isChosen hw p) hw.p0 rfl rfl rfl (Nat.le_of_ble_eq_true rfl) (by decide) (by decide) (by decide) (by decide) ?_
  refine V_if_eq 19 dX7_homeToCome_5 (by decide) (fun h5 => ?_) (fun h5 => ?_)
  · skip
    refine V_aload_n dX7_homeToCome_19 rfl ?_
    refine V_get (0) fl_X7_9 dX7_homeToCome_20 hw.p0 rfl ?_
    refine V_iload_n dX7_homeToCome_23 rfl ?_
    refine V_iald (1) dX7_homeToCome_24 hw.p1 hp ?_
    refine V_iret dX7_homeToCome_25 rfl (by decide) (by decide) ?_
    exact ⟨by rw [bI_0 h5]; rfl, rfl⟩
  · skip
    refine V_aload_n dX7_homeToCome_8 rfl ?_
    refine V_get (0) fl_X7_16 dX7_homeToCome_9 hw.p0 rfl ?_
    refine V_iload_n dX7_homeToCome_12 rfl ?_
    refine V_rdV (2) mw_X2_versionOf mv_X7_141 dX7_homeToCome_13 (ct_X2_versionOf hw (Or.inl rfl) p) hw.p2 rfl rfl rfl (Nat.le_of_ble_eq_true rfl) (by decide) (by decide) (by decide) (by decide) ?_
    refine V_goto 25 dX7_homeToCome_16 (by decide) ?_
    refine V_iret dX7_homeToCome_25 rfl (by decide) (by decide) ?_
    exact ⟨by rw [bI_1 h5]; rfl, rfl⟩
set_option maxHeartbeats 4000000 in
set_option maxRecDepth 20000 in
theorem ct_X7_openOffers (hw : WF E ad el g w0 ws) : Ct E yX7_openOffers cX7_openOffers 1 (some (.object "TrainDesk$Offers")) 1 0 0 [.ref (ad 0)] ws (fun r w => r = some (.ref (ad (if cutB g = true then 5 else 2))) ∧ w = ws) := by
  refine Ct_of mw_X7_openOffers rfl (Nat.le_of_ble_eq_true rfl) ?_
  refine V_aload_n dX7_openOffers_0 rfl ?_
  refine V_rdV (0) mw_X7_isCutAtHand mv_X7_72 dX7_openOffers_1 (ct_X7_isCutAtHand hw) hw.p0 rfl rfl rfl (Nat.le_of_ble_eq_true rfl) (by decide) (by decide) (by decide) (by decide) ?_
  refine V_if_eq 14 dX7_openOffers_4 (by decide) (fun h4 => ?_) (fun h4 => ?_)
  · skip
    refine V_aload_n dX7_openOffers_14 rfl ?_
    refine V_get (0) fl_X7_16 dX7_openOffers_15 hw.p0 rfl ?_
    refine V_aret dX7_openOffers_18 rfl (Or.inl ⟨_, rfl⟩) (Or.inr ⟨_, rfl⟩) (by decide) (by decide) ?_
    exact ⟨by rw [bI_0 h4]; rfl, rfl⟩
  · skip
    refine V_aload_n dX7_openOffers_7 rfl ?_
    refine V_get (0) fl_X7_20 dX7_openOffers_8 hw.p0 rfl ?_
    refine V_goto 18 dX7_openOffers_11 (by decide) ?_
    refine V_aret dX7_openOffers_18 rfl (Or.inl ⟨_, rfl⟩) (Or.inr ⟨_, rfl⟩) (by decide) (by decide) ?_
    exact ⟨by rw [bI_1 h4]; rfl, rfl⟩
set_option maxHeartbeats 4000000 in
set_option maxRecDepth 20000 in
theorem ct_X7_mayFix (hw : WF E ad el g w0 ws) {nP : Nat} (hP : g 0 9 = nI nP) (hP10 : nP ≤ 10) (p v u : Int32) : Ct E yX7_mayFix cX7_mayFix 4 (some (.boolean)) 2 0 0 [.ref (ad 0), .int p, .int v, .int u] ws (fun r w => r = some (.int (bI (mayB g p v u))) ∧ w = ws) := by
  refine Ct_of mw_X7_mayFix rfl (Nat.le_of_ble_eq_true rfl) ?_
  refine V_aload_n dX7_mayFix_0 rfl ?_
  refine V_rdV (0) mw_X7_isCutAtHand mv_X7_72 dX7_mayFix_1 (ct_X7_isCutAtHand hw) hw.p0 rfl rfl rfl (Nat.le_of_ble_eq_true rfl) (by decide) (by decide) (by decide) (by decide) ?_
  refine V_if_eq 51 dX7_mayFix_4 (by decide) (fun h4 => ?_) (fun h4 => ?_)
  · skip
    refine V_iconst (v := 0) dX7_mayFix_51 (by decide) ?_
    refine V_zret dX7_mayFix_52 rfl (by first | exact Or.inl rfl | exact Or.inr rfl) (by decide) (by decide) ?_
    exact ⟨by simp [mayB, bI, bI_0 h4], rfl⟩
  · skip
    refine V_aload_n dX7_mayFix_7 rfl ?_
    refine V_iload_n dX7_mayFix_8 rfl ?_
    refine V_rdV (0) mw_X7_isPart mv_X7_80 dX7_mayFix_9 (ct_X7_isPart hw p) hw.p0 rfl rfl rfl (Nat.le_of_ble_eq_true rfl) (by decide) (by decide) (by decide) (by decide) ?_
    refine V_if_eq 51 dX7_mayFix_12 (by decide) (fun h12 => ?_) (fun h12 => ?_)
    · skip
      refine V_iconst (v := 0) dX7_mayFix_51 (by decide) ?_
      refine V_zret dX7_mayFix_52 rfl (by first | exact Or.inl rfl | exact Or.inr rfl) (by decide) (by decide) ?_
      exact ⟨by simp [mayB, bI, bI_0 h12, bI_1 h4], rfl⟩
    · skip
      refine V_iload_n dX7_mayFix_15 rfl ?_
      refine V_rdS mw_X7_isVersion ms_X7_76 dX7_mayFix_16 (ct_X7_isVersion v) rfl rfl (Nat.le_of_ble_eq_true rfl) (by decide) (by decide) (by decide) (by decide) ?_
      refine V_if_eq 51 dX7_mayFix_19 (by decide) (fun h19 => ?_) (fun h19 => ?_)
      · skip
        refine V_iconst (v := 0) dX7_mayFix_51 (by decide) ?_
        refine V_zret dX7_mayFix_52 rfl (by first | exact Or.inl rfl | exact Or.inr rfl) (by decide) (by decide) ?_
        exact ⟨by simp [mayB, bI, bI_0 h19, bI_1 h4, bI_1 h12], rfl⟩
      · skip
        refine V_iload_n dX7_mayFix_22 rfl ?_
        refine V_rdS mw_X7_isWorth ms_X7_83 dX7_mayFix_23 (ct_X7_isWorth u) rfl rfl (Nat.le_of_ble_eq_true rfl) (by decide) (by decide) (by decide) (by decide) ?_
        refine V_if_eq 51 dX7_mayFix_26 (by decide) (fun h26 => ?_) (fun h26 => ?_)
        · skip
          refine V_iconst (v := 0) dX7_mayFix_51 (by decide) ?_
          refine V_zret dX7_mayFix_52 rfl (by first | exact Or.inl rfl | exact Or.inr rfl) (by decide) (by decide) ?_
          exact ⟨by simp [mayB, bI, bI_0 h26, bI_1 h4, bI_1 h12, bI_1 h19], rfl⟩
        · skip
          refine V_aload_n dX7_mayFix_29 rfl ?_
          refine V_iload_n dX7_mayFix_30 rfl ?_
          refine V_rdV (0) mw_X7_isChosen mv_X7_134 dX7_mayFix_31 (ct_X7_isChosen hw p) hw.p0 rfl rfl rfl (Nat.le_of_ble_eq_true rfl) (by decide) (by decide) (by decide) (by decide) ?_
          refine V_if_ne 51 dX7_mayFix_34 (by decide) (fun h34 => ?_) (fun h34 => ?_)
          · skip
            refine V_iconst (v := 0) dX7_mayFix_51 (by decide) ?_
            refine V_zret dX7_mayFix_52 rfl (by first | exact Or.inl rfl | exact Or.inr rfl) (by decide) (by decide) ?_
            exact ⟨by simp [mayB, bI, bI_1 h34, bI_1 h4, bI_1 h12, bI_1 h19, bI_1 h26], rfl⟩
          · skip
            refine V_iload_n dX7_mayFix_37 rfl ?_
            refine V_aload_n dX7_mayFix_38 rfl ?_
            refine V_get (0) fl_X7_9 dX7_mayFix_39 hw.p0 rfl ?_
            refine V_iload_n dX7_mayFix_42 rfl ?_
            refine V_iald (1) dX7_mayFix_43 hw.p1 (by obtain ⟨j, hj, rfl⟩ := isPt_in hP hP10 (bI_1 h12); exact vp_in_nI (by omega) (by decide)) ?_
            refine V_icmp_eq 51 dX7_mayFix_44 (by decide) (fun h44 => ?_) (fun h44 => ?_)
            · skip
              refine V_iconst (v := 0) dX7_mayFix_51 (by decide) ?_
              refine V_zret dX7_mayFix_52 rfl (by first | exact Or.inl rfl | exact Or.inr rfl) (by decide) (by decide) ?_
              exact ⟨by simp [mayB, bI, bI_0 h34, h44, bI_1 h4, bI_1 h12, bI_1 h19, bI_1 h26], rfl⟩
            · skip
              refine V_iconst (v := 1) dX7_mayFix_47 (by decide) ?_
              refine V_goto 52 dX7_mayFix_48 (by decide) ?_
              refine V_zret dX7_mayFix_52 rfl (by first | exact Or.inl rfl | exact Or.inr rfl) (by decide) (by decide) ?_
              exact ⟨by simp [mayB, bI, bI_0 h34, h44, bI_1 h4, bI_1 h12, bI_1 h19, bI_1 h26], rfl⟩
set_option maxHeartbeats 4000000 in
set_option maxRecDepth 20000 in
theorem ct_X7_firstBroken (hw : Wd E ad el g ws) {nN : Nat} (hN : g 8 7 = nI nN) (hN30 : nN ≤ 30) (hok : NOK g nN) (set : Int32) : Ct E yX7_firstBroken cX7_firstBroken 2 (some (.int)) 4 0 0 [.ref (ad 0), .int set] ws (fun r w => r = some (.int (brkD (wTo g nN) nN set)) ∧ WF E ad el (wTo g nN) ws w) := by
  refine Ct_of mw_X7_firstBroken rfl (Nat.le_of_ble_eq_true rfl) ?_
  have hw := WF.rf hw
  refine V_aload_n dX7_firstBroken_0 rfl ?_
  refine V_get (0) fl_X7_26 dX7_firstBroken_1 hw.p0 rfl ?_
  refine V_aload_n dX7_firstBroken_4 rfl ?_
  refine V_get (0) fl_X7_9 dX7_firstBroken_5 hw.p0 rfl ?_
  refine V_aload_n dX7_firstBroken_8 rfl ?_
  refine V_get (0) fl_X7_16 dX7_firstBroken_9 hw.p0 rfl ?_
  refine V_callV (8) mw_X1_weigh mv_X7_147 dX7_firstBroken_12 (ct_X1_weigh hw.1 hN hN30 hok) hw.p8 rfl rfl rfl (Nat.le_of_ble_eq_true rfl) (by decide) (by decide) (by decide) (by decide) (fun r12 ws1 hp12 => ?_)
  obtain ⟨rfl, hw1⟩ := hp12
  refine V_aload_n dX7_firstBroken_15 rfl ?_
  refine V_get (0) fl_X7_26 dX7_firstBroken_16 hw1.p0 rfl ?_
  refine V_iload_n dX7_firstBroken_19 rfl ?_
  refine V_rdV (8) mw_X1_firstBroken mv_X7_250 dX7_firstBroken_20 (ct_X1_firstBroken hw1 set hN hN30) hw1.p8 rfl rfl rfl (Nat.le_of_ble_eq_true rfl) (by decide) (by decide) (by decide) (by decide) ?_
  refine V_iret dX7_firstBroken_23 rfl (by decide) (by decide) ?_
  exact ⟨rfl, hw1⟩
set_option maxHeartbeats 4000000 in
set_option maxRecDepth 20000 in
theorem ct_X7_goes (hw : WF E ad el g w0 ws) {nN : Nat} (hN : g 8 7 = nI nN) (hN30 : nN ≤ 30) {nT : Nat} (hT : g 16 1 = nI nT) (hT12 : nT ≤ 12) (set : Int32) : Ct E yX7_goes cX7_goes 2 (some (.boolean)) 1 0 0 [.ref (ad 0), .int set] ws (fun r w => r = some (.int (bI (goesB g nN nT set))) ∧ w = ws) := by
  refine Ct_of mw_X7_goes rfl (Nat.le_of_ble_eq_true rfl) ?_
  refine V_aload_n dX7_goes_0 rfl ?_
  refine V_get (0) fl_X7_26 dX7_goes_1 hw.p0 rfl ?_
  refine V_iload_n dX7_goes_4 rfl ?_
  refine V_rdV (8) mw_X1_firstBroken mv_X7_250 dX7_goes_5 (ct_X1_firstBroken hw set hN hN30) hw.p8 rfl rfl rfl (Nat.le_of_ble_eq_true rfl) (by decide) (by decide) (by decide) (by decide) ?_
  refine V_iconst (v := -1) dX7_goes_8 (by decide) ?_
  refine V_icmp_ne 28 dX7_goes_9 (by decide) (fun h9 => ?_) (fun h9 => ?_)
  · skip
    refine V_iconst (v := 0) dX7_goes_28 (by decide) ?_
    refine V_zret dX7_goes_29 rfl (by first | exact Or.inl rfl | exact Or.inr rfl) (by decide) (by decide) ?_
    exact ⟨by rw [goesB, decide_eq_false h9]; rfl, rfl⟩
  · skip
    refine V_aload_n dX7_goes_12 rfl ?_
    refine V_get (0) fl_X7_33 dX7_goes_13 hw.p0 rfl ?_
    refine V_iload_n dX7_goes_16 rfl ?_
    refine V_rdV (16) mw_X5_firstRed mv_X7_121 dX7_goes_17 (ct_X5_firstRed hw set hT hT12) hw.p16 rfl rfl rfl (Nat.le_of_ble_eq_true rfl) (by decide) (by decide) (by decide) (by decide) ?_
    refine V_iconst (v := -1) dX7_goes_20 (by decide) ?_
    refine V_icmp_ne 28 dX7_goes_21 (by decide) (fun h21 => ?_) (fun h21 => ?_)
    · skip
      refine V_iconst (v := 0) dX7_goes_28 (by decide) ?_
      refine V_zret dX7_goes_29 rfl (by first | exact Or.inl rfl | exact Or.inr rfl) (by decide) (by decide) ?_
      exact ⟨by rw [goesB, decide_eq_true h9, decide_eq_false h21]; rfl, rfl⟩
    · skip
      refine V_iconst (v := 1) dX7_goes_24 (by decide) ?_
      refine V_goto 29 dX7_goes_25 (by decide) ?_
      refine V_zret dX7_goes_29 rfl (by first | exact Or.inl rfl | exact Or.inr rfl) (by decide) (by decide) ?_
      exact ⟨by rw [goesB, decide_eq_true h9, decide_eq_true h21]; rfl, rfl⟩
set_option maxHeartbeats 4000000 in
set_option maxRecDepth 20000 in
theorem ct_X7_hasLowerPart (a b : Int32) : Ct E yX7_hasLowerPart cX7_hasLowerPart 2 (some (.boolean)) 1 0 0 [.int a, .int b] ws (fun r w => r = some (.int (bI (lowerB a b))) ∧ w = ws) := by
  refine Ct_of mw_X7_hasLowerPart rfl (Nat.le_of_ble_eq_true rfl) ?_
  refine V_iload_n dX7_hasLowerPart_0 rfl ?_
  refine V_iload_n dX7_hasLowerPart_1 rfl ?_
  refine V_iload_n dX7_hasLowerPart_2 rfl ?_
  refine V_ixor dX7_hasLowerPart_3 ?_
  refine V_rdS mw_J6_lowestOneBit_0f7a4 ms_X7_254 dX7_hasLowerPart_4 (ct_lowestOneBit _) rfl rfl (Nat.le_of_ble_eq_true rfl) (by decide) (by decide) (by decide) (by decide) ?_
  refine V_iand dX7_hasLowerPart_7 ?_
  refine V_if_eq 15 dX7_hasLowerPart_8 (by decide) (fun h8 => ?_) (fun h8 => ?_)
  · skip
    refine V_iconst (v := 0) dX7_hasLowerPart_15 (by decide) ?_
    refine V_zret dX7_hasLowerPart_16 rfl (by first | exact Or.inl rfl | exact Or.inr rfl) (by decide) (by decide) ?_
    exact ⟨by rw [lowerB, decide_eq_true h8]; rfl, rfl⟩
  · skip
    refine V_iconst (v := 1) dX7_hasLowerPart_11 (by decide) ?_
    refine V_goto 16 dX7_hasLowerPart_12 (by decide) ?_
    refine V_zret dX7_hasLowerPart_16 rfl (by first | exact Or.inl rfl | exact Or.inr rfl) (by decide) (by decide) ?_
    exact ⟨by rw [lowerB, decide_eq_false h8]; rfl, rfl⟩
set_option maxHeartbeats 4000000 in
set_option maxRecDepth 20000 in
theorem ct_X7_choose (hw : Wd E ad el g ws) {nN : Nat} (hN : g 8 7 = nI nN) (hN30 : nN ≤ 30) (hok : NOK g nN) {S : Nat} (hS : S < 1024) : Ct E yX7_choose cX7_choose 2 none 4 0 0 [.ref (ad 0), .int (nI S)] ws (fun r w => r = none ∧ WF E ad el (chooseG g nN S) ws w) := by
  refine Ct_of mw_X7_choose rfl (Nat.le_of_ble_eq_true rfl) ?_
  have hw := WF.rf hw
  refine V_aload_n dX7_choose_0 rfl ?_
  refine V_iload_n dX7_choose_1 rfl ?_
  refine W_put (0) hw (by decide) fp_X7_69 dX7_choose_2 rfl rfl rfl rfl (Nat.le_of_ble_eq_true rfl) (fun ws1 hw1 => ?_)
  refine V_aload_n dX7_choose_5 rfl ?_
  refine V_get (0) fl_X7_26 dX7_choose_6 hw1.p0 rfl ?_
  refine V_aload_n dX7_choose_9 rfl ?_
  refine V_get (0) fl_X7_9 dX7_choose_10 hw1.p0 rfl ?_
  refine V_aload_n dX7_choose_13 rfl ?_
  refine V_get (0) fl_X7_16 dX7_choose_14 hw1.p0 rfl ?_
  refine V_callV (8) mw_X1_weigh mv_X7_147 dX7_choose_17 (ct_X1_weigh (g := va_up g 0 (upd (g 0) 10 (nI S))) hw1.1 hN hN30 hok) hw1.p8 rfl rfl rfl (Nat.le_of_ble_eq_true rfl) (by decide) (by decide) (by decide) (by decide) (fun r17 ws2 hp17 => ?_)
  obtain ⟨rfl, hw2⟩ := hp17
  have hw2 := hw1.trans hw2
  refine V_aload_n dX7_choose_20 rfl ?_
  refine V_get (0) fl_X7_40 dX7_choose_21 hw2.p0 rfl ?_
  refine V_aload_n dX7_choose_24 rfl ?_
  refine V_get (0) fl_X7_26 dX7_choose_25 hw2.p0 rfl ?_
  refine V_iload_n dX7_choose_28 rfl ?_
  refine V_callV (18) mw_X4_plan mv_X7_257 dX7_choose_29 (ct_X4_plan hw2.1 hN hN30 hS) hw2.p18 rfl rfl rfl (Nat.le_of_ble_eq_true rfl) (by decide) (by decide) (by decide) (by decide) (fun r29 ws3 hp29 => ?_)
  obtain ⟨rfl, hw3⟩ := hp29
  have hw3 := hw2.trans hw3
  refine V_vret dX7_choose_32 rfl (by decide) (by decide) ?_
  exact ⟨rfl, hw3⟩
def pStk (g : Nat → Nat → Int32) (nW S : Nat) (p : Nat) : Bool := S.testBit p && !decide (fi (pWay (g 22) (g 23) (nI p) (g 1 p)) nW 0 = -1)
set_option maxHeartbeats 4000000 in
set_option maxRecDepth 20000 in
theorem lp_X7_isStuck (hw : WF E ad el g w0 ws) {nP : Nat} (hP : g 0 9 = nI nP) (hP10 : nP ≤ 10) {nW : Nat} (hW : g 21 2 = nI nW) (hW60 : nW ≤ 60) {S : Nat} (hS : S < 1024) : ∀ (k i : Nat) (x : Int32), i ≤ nP → nP < i + k → x = nI i → fi (pStk g nW S) nP 0 = fi (pStk g nW S) (nP - i) i → V E yX7_isStuck cX7_isStuck 3 (some (.boolean)) 1 0 0 (fun r w => r = some (.int (bI (!decide (fi (pStk g nW S) nP 0 = -1)))) ∧ w = ws) 2 [some (.ref (ad 0)), some (.int (nI S)), some (.int x)] [] ws 0 0 := by
  intro k
  induction k with
  | zero => intro i x h1 h2; exact absurd h2 (by omega)
  | succ k ih =>
    intro i x hil hin hx hinv
    subst hx
    refine V_iload_n dX7_isStuck_2 rfl ?_
    refine V_aload_n dX7_isStuck_3 rfl ?_
    refine V_get (0) fl_X7_65 dX7_isStuck_4 hw.p0 rfl ?_
    refine V_icmp_ge 44 dX7_isStuck_7 (by decide) (fun h7 => ?_) (fun h7 => ?_)
    · skip
      refine V_iconst (v := 0) dX7_isStuck_44 (by decide) ?_
      refine V_zret dX7_isStuck_45 rfl (by first | exact Or.inl rfl | exact Or.inr rfl) (by decide) (by decide) ?_
      have hi := leK (a := nP) (b := i) (by omega) (by omega) (by rw [← hP]; exact h7)
      exact ⟨by rw [hinv, fi_end hi]; rfl, rfl⟩
    · skip
      have hi := nleK (a := nP) (b := i) (by omega) (by omega) (by rw [← hP]; exact h7)
      refine V_iload_n dX7_isStuck_10 rfl ?_
      refine V_iload_n dX7_isStuck_11 rfl ?_
      refine V_ishr dX7_isStuck_12 ?_
      refine V_iconst (v := 1) dX7_isStuck_13 (by decide) ?_
      refine V_iand dX7_isStuck_14 ?_
      refine V_if_eq 38 dX7_isStuck_15 (by decide) (fun h15 => ?_) (fun h15 => ?_)
      · skip
        refine V_iinc dX7_isStuck_38 rfl rfl (by decide) ?_
        refine V_goto 2 dX7_isStuck_41 (by decide) ?_
        have hb := bitAt_eq (by omega) (by omega) h15
        exact ih (i + 1) _ (by omega) (by omega) (nI_1 i) (by rw [hinv, fi_step hi, if_neg (by simp [pStk, hb])])
      · skip
        refine V_aload_n dX7_isStuck_18 rfl ?_
        refine V_get (0) fl_X7_54 dX7_isStuck_19 hw.p0 rfl ?_
        refine V_iload_n dX7_isStuck_22 rfl ?_
        refine V_aload_n dX7_isStuck_23 rfl ?_
        refine V_get (0) fl_X7_9 dX7_isStuck_24 hw.p0 rfl ?_
        refine V_iload_n dX7_isStuck_27 rfl ?_
        refine V_ialdN (1) dX7_isStuck_28 hw.p1 (by omega) (by first | decide | omega) ?_
        refine V_rdV (21) mw_X3_find mv_X7_261 dX7_isStuck_29 (ct_X3_find hw (nI i) (g 1 i) hW hW60) hw.p21 rfl rfl rfl (Nat.le_of_ble_eq_true rfl) (by decide) (by decide) (by decide) (by decide) ?_
        refine V_iconst (v := -1) dX7_isStuck_32 (by decide) ?_
        refine V_icmp_eq 38 dX7_isStuck_33 (by decide) (fun h33 => ?_) (fun h33 => ?_)
        · skip
          refine V_iinc dX7_isStuck_38 rfl rfl (by decide) ?_
          refine V_goto 2 dX7_isStuck_41 (by decide) ?_
          exact ih (i + 1) _ (by omega) (by omega) (nI_1 i) (by rw [hinv, fi_step hi, if_neg (by simp [pStk, h33])])
        · skip
          refine V_iconst (v := 1) dX7_isStuck_36 (by decide) ?_
          refine V_zret dX7_isStuck_37 rfl (by first | exact Or.inl rfl | exact Or.inr rfl) (by decide) (by decide) ?_
          have hb := bitAt_ne (by omega) (by omega) h15
          have e : fi (pStk g nW S) nP 0 = nI i := by rw [hinv, fi_step hi, if_pos (by simp [pStk, hb, h33])]
          exact ⟨by rw [e, decide_eq_false (nI_ne_m1 (by omega))]; rfl, rfl⟩
set_option maxHeartbeats 4000000 in
set_option maxRecDepth 20000 in
theorem ct_X7_isStuck (hw : WF E ad el g w0 ws) {nP : Nat} (hP : g 0 9 = nI nP) (hP10 : nP ≤ 10) {nW : Nat} (hW : g 21 2 = nI nW) (hW60 : nW ≤ 60) {S : Nat} (hS : S < 1024) : Ct E yX7_isStuck cX7_isStuck 3 (some (.boolean)) 1 0 0 [.ref (ad 0), .int (nI S)] ws (fun r w => r = some (.int (bI (!decide (fi (pStk g nW S) nP 0 = -1)))) ∧ w = ws) := by
  refine Ct_of mw_X7_isStuck rfl (Nat.le_of_ble_eq_true rfl) ?_
  refine V_iconst (v := 0) dX7_isStuck_0 (by decide) ?_
  refine V_istore_n dX7_isStuck_1 (by decide) ?_
  exact lp_X7_isStuck hw hP hP10 hW hW60 hS (nP + 1) 0 _ (Nat.zero_le _) (by omega) rfl rfl
/-- home with the versions f of the parts of S below n -/
def brF (h f : Nat → Int32) (S n : Nat) : Nat → Int32 := fun p => if (decide (p < n) && S.testBit p) = true then f p else h p
theorem brF_0 (h f : Nat → Int32) (S : Nat) : brF h f S 0 = h := by funext p; simp [brF]
theorem brF_s1 {h f : Nat → Int32} {S n : Nat} (hb : S.testBit n = true) : upd (brF h f S n) n (f n) = brF h f S (n + 1) := by
  funext p
  unfold upd brF
  by_cases e : p = n
  · subst e; simp [hb]
  · rw [if_neg e]
    by_cases q : p < n
    · simp [q, Nat.lt_succ_of_lt q]
    · simp [q, show ¬ p < n + 1 by omega]
theorem brF_s0 {h f : Nat → Int32} {S n : Nat} (hb : S.testBit n = false) : brF h f S n = brF h f S (n + 1) := by
  funext p
  unfold brF
  by_cases e : p = n
  · subst e; simp [hb]
  · by_cases q : p < n
    · simp [q, Nat.lt_succ_of_lt q]
    · simp [q, show ¬ p < n + 1 by omega]
set_option maxHeartbeats 4000000 in
set_option maxRecDepth 20000 in
theorem lp_X7_bringHome {q a n : Nat} {f : Nat → Int32} (hq : 46 ≤ q) (hn : n ≤ 10) {S : Nat} (hS : S < 1024) (hf : w0[q]? = some (a, .inl (cI E, n, .inl f))) : ∀ (k i : Nat) (x : Int32) (ws : va_W), i ≤ n → n < i + k → x = nI i → WF E ad el (va_up g 1 (brF (g 1) f S i)) w0 ws → V E yX7_bringHome cX7_bringHome 4 none 0 0 0 (fun r w => r = none ∧ WF E ad el (va_up g 1 (brF (g 1) f S n)) w0 w) 2 [some (.ref (ad 0)), some (.ref a), some (.int (nI S)), some (.int x)] [] ws 0 0 := by
  intro k
  induction k with
  | zero => intro i x ws h1 h2; exact absurd h2 (by omega)
  | succ k ih =>
    intro i x ws hil hin hx hw
    subst hx
    refine V_iload_n dX7_bringHome_2 rfl ?_
    refine V_aload_n dX7_bringHome_3 rfl ?_
    refine V_alenI (q) dX7_bringHome_4 (by rw [hw.2.2 q hq]; exact hf) rfl ?_
    refine V_icmp_ge 37 dX7_bringHome_5 (by decide) (fun h5 => ?_) (fun h5 => ?_)
    · skip
      refine V_vret dX7_bringHome_37 rfl (by decide) (by decide) ?_
      have hi : i = n := by have := leK (a := n) (b := i) (by omega) (by omega) h5; omega
      subst hi
      exact ⟨rfl, hw⟩
    · skip
      have hi := nleK (a := n) (b := i) (by omega) (by omega) h5
      refine V_iload_n dX7_bringHome_8 rfl ?_
      refine V_bipush (v := 10) dX7_bringHome_9 (by decide) ?_
      refine V_icmp_ge 37 dX7_bringHome_11 (by decide) (fun h11 => absurd (leK (a := 10) (b := i) (by decide) (by omega) h11) (by omega)) (fun h11 => ?_)
      refine V_iload_n dX7_bringHome_14 rfl ?_
      refine V_iload_n dX7_bringHome_15 rfl ?_
      refine V_ishr dX7_bringHome_16 ?_
      refine V_iconst (v := 1) dX7_bringHome_17 (by decide) ?_
      refine V_iand dX7_bringHome_18 ?_
      refine V_if_eq 31 dX7_bringHome_19 (by decide) (fun h19 => ?_) (fun h19 => ?_)
      · skip
        refine V_iinc dX7_bringHome_31 rfl rfl (by decide) ?_
        refine V_goto 2 dX7_bringHome_34 (by decide) ?_
        have hb := bitAt_eq (by omega) (by omega) h19
        rw [brF_s0 hb] at hw
        exact ih (i + 1) _ _ (by omega) (by omega) (nI_1 i) hw
      · skip
        refine V_aload_n dX7_bringHome_22 rfl ?_
        refine V_get (0) fl_X7_9 dX7_bringHome_23 hw.p0 rfl ?_
        refine V_iload_n dX7_bringHome_26 rfl ?_
        refine V_aload_n dX7_bringHome_27 rfl ?_
        refine V_iload_n dX7_bringHome_28 rfl ?_
        refine V_ialdN (q) dX7_bringHome_29 (by rw [hw.2.2 q hq]; exact hf) hi (by first | decide | omega) ?_
        refine W_iastN (1) hw (by decide) (fun _ => rfl) dX7_bringHome_30 (by omega) (by first | decide | omega) (fun ws1 hw1 => ?_)
        refine V_iinc dX7_bringHome_31 rfl rfl (by decide) ?_
        refine V_goto 2 dX7_bringHome_34 (by decide) ?_
        have hb := bitAt_ne (by omega) (by omega) h19
        rw [va_up_up, show va_up g 1 (brF (g 1) f S i) 1 = brF (g 1) f S i from rfl, brF_s1 hb] at hw1
        exact ih (i + 1) _ _ (by omega) (by omega) (nI_1 i) hw1
set_option maxHeartbeats 4000000 in
set_option maxRecDepth 20000 in
theorem ct_X7_bringHome (hw : Wd E ad el g ws) {q a n : Nat} {f : Nat → Int32} (hq : 46 ≤ q) (hn : n ≤ 10) {S : Nat} (hS : S < 1024) (hf : ws[q]? = some (a, .inl (cI E, n, .inl f))) : Ct E yX7_bringHome cX7_bringHome 4 none 0 0 0 [.ref (ad 0), .ref a, .int (nI S)] ws (fun r w => r = none ∧ WF E ad el (va_up g 1 (brF (g 1) f S n)) ws w) := by
  refine Ct_of mw_X7_bringHome rfl (Nat.le_of_ble_eq_true rfl) ?_
  refine V_iconst (v := 0) dX7_bringHome_0 (by decide) ?_
  refine V_istore_n dX7_bringHome_1 (by decide) ?_
  exact lp_X7_bringHome hq hn hS hf (n + 1) 0 _ _ (Nat.zero_le _) (by omega) rfl (by rw [brF_0, va_up_id]; exact WF.rf hw)
def drpG (g : Nat → Nat → Int32) : Nat → Nat → Nat → Int32
  | 0 => g
  | p + 1 => if at10 (drpG g p 3) (nI p) = drpG g p 1 p then put10 (drpG g p) 2 (nI p) (-1) (-1) else drpG g p
def endStep (g : Nat → Nat → Int32) (p : Nat) : Nat → Nat → Int32 := put10 (if at10 (g 6) (nI p) = -1 then g else if at10 (g 6) (nI p) = g 1 p then g else put10 g 2 (nI p) (at10 (g 6) (nI p)) (at10 (g 7) (nI p))) 5 (nI p) (-1) (-1)
def endG (g : Nat → Nat → Int32) : Nat → Nat → Nat → Int32
  | 0 => va_up g 0 (upd (g 0) 10 (-1))
  | p + 1 => endStep (endG g p) p
theorem put10_low (g : Nat → Nat → Int32) (b : Nat) (p v u : Int32) (k : Nat) (h1 : k ≠ b + 1) (h2 : k ≠ b + 2) : put10 g b p v u k = g k := by
  unfold put10
  split
  · rfl
  · split
    · rfl
    · rw [va_up_ne _ _ h2, va_up_ne _ _ h1]
theorem drpG_k (g : Nat → Nat → Int32) (k : Nat) (h1 : k ≠ 3) (h2 : k ≠ 4) : ∀ p, drpG g p k = g k
  | 0 => rfl
  | p + 1 => by
    unfold drpG
    split
    · rw [put10_low _ _ _ _ _ _ h1 h2]; exact drpG_k g k h1 h2 p
    · exact drpG_k g k h1 h2 p
theorem endStep_k (g : Nat → Nat → Int32) (p k : Nat) (h3 : k ≠ 3) (h4 : k ≠ 4) (h6 : k ≠ 6) (h7 : k ≠ 7) : endStep g p k = g k := by
  unfold endStep
  rw [put10_low _ _ _ _ _ _ h6 h7]
  split
  · rfl
  · split
    · rfl
    · rw [put10_low _ _ _ _ _ _ h3 h4]
theorem endG_k (g : Nat → Nat → Int32) (k : Nat) (h0 : k ≠ 0) (h3 : k ≠ 3) (h4 : k ≠ 4) (h6 : k ≠ 6) (h7 : k ≠ 7) : ∀ p, endG g p k = g k
  | 0 => va_up_ne _ _ h0
  | p + 1 => by
    unfold endG
    rw [endStep_k _ _ _ h3 h4 h6 h7]
    exact endG_k g k h0 h3 h4 h6 h7 p
theorem endG_09 (g : Nat → Nat → Int32) : ∀ p, endG g p 0 = upd (g 0) 10 (-1)
  | 0 => va_up_self _ _ _
  | p + 1 => by
    unfold endG
    rw [endStep_k _ _ _ (by decide) (by decide) (by decide) (by decide)]
    exact endG_09 g p
set_option maxHeartbeats 4000000 in
set_option maxRecDepth 20000 in
theorem lp_X7_dropOffersAtHome {nP : Nat} (hP : g 0 9 = nI nP) (hP10 : nP ≤ 10) : ∀ (k i : Nat) (x : Int32) (ws : va_W), i ≤ nP → nP < i + k → x = nI i → WF E ad el (drpG g i) w0 ws → V E yX7_dropOffersAtHome cX7_dropOffersAtHome 2 none 2 0 0 (fun r w => r = none ∧ WF E ad el (drpG g nP) w0 w) 2 [some (.ref (ad 0)), some (.int x)] [] ws 0 0 := by
  intro k
  induction k with
  | zero => intro i x ws h1 h2; exact absurd h2 (by omega)
  | succ k ih =>
    intro i x ws hil hin hx hw
    subst hx
    refine V_iload_n dX7_dropOffersAtHome_2 rfl ?_
    refine V_aload_n dX7_dropOffersAtHome_3 rfl ?_
    refine V_get (0) fl_X7_65 dX7_dropOffersAtHome_4 hw.p0 rfl ?_
    refine V_icmp_ge 41 dX7_dropOffersAtHome_7 (by decide) (fun h7 => ?_) (fun h7 => ?_)
    · skip
      refine V_vret dX7_dropOffersAtHome_41 rfl (by decide) (by decide) ?_
      rw [show drpG g i 0 9 = nI nP from by rw [drpG_k g 0 (by decide) (by decide)]; exact hP] at h7
      have hi : i = nP := by have := leK (a := nP) (b := i) (by omega) (by omega) h7; omega
      subst hi
      exact ⟨rfl, hw⟩
    · skip
      rw [show drpG g i 0 9 = nI nP from by rw [drpG_k g 0 (by decide) (by decide)]; exact hP] at h7
      have hi := nleK (a := nP) (b := i) (by omega) (by omega) h7
      refine V_aload_n dX7_dropOffersAtHome_10 rfl ?_
      refine V_get (0) fl_X7_16 dX7_dropOffersAtHome_11 hw.p0 rfl ?_
      refine V_iload_n dX7_dropOffersAtHome_14 rfl ?_
      refine V_rdV (2) mw_X2_versionOf mv_X7_141 dX7_dropOffersAtHome_15 (ct_X2_versionOf hw (Or.inl rfl) (nI i)) hw.p2 rfl rfl rfl (Nat.le_of_ble_eq_true rfl) (by decide) (by decide) (by decide) (by decide) ?_
      refine V_aload_n dX7_dropOffersAtHome_18 rfl ?_
      refine V_get (0) fl_X7_9 dX7_dropOffersAtHome_19 hw.p0 rfl ?_
      refine V_iload_n dX7_dropOffersAtHome_22 rfl ?_
      refine V_ialdN (1) dX7_dropOffersAtHome_23 hw.p1 (by omega) (by first | decide | omega) ?_
      refine V_icmp_ne 35 dX7_dropOffersAtHome_24 (by decide) (fun h24 => ?_) (fun h24 => ?_)
      · skip
        refine V_iinc dX7_dropOffersAtHome_35 rfl rfl (by decide) ?_
        refine V_goto 2 dX7_dropOffersAtHome_38 (by decide) ?_
        exact ih (i + 1) _ _ (by omega) (by omega) (nI_1 i) (by rw [drpG, if_neg h24]; exact hw)
      · skip
        refine V_aload_n dX7_dropOffersAtHome_27 rfl ?_
        refine V_get (0) fl_X7_16 dX7_dropOffersAtHome_28 hw.p0 rfl ?_
        refine V_iload_n dX7_dropOffersAtHome_31 rfl ?_
        refine V_callV (2) mw_X2_drop mv_X7_101 dX7_dropOffersAtHome_32 (ct_X2_drop hw.1 (Or.inl rfl) (nI i)) hw.p2 rfl rfl rfl (Nat.le_of_ble_eq_true rfl) (by decide) (by decide) (by decide) (by decide) (fun r32 ws1 hp32 => ?_)
        obtain ⟨rfl, hw1⟩ := hp32
        have hw1 := hw.trans hw1
        refine V_iinc dX7_dropOffersAtHome_35 rfl rfl (by decide) ?_
        refine V_goto 2 dX7_dropOffersAtHome_38 (by decide) ?_
        exact ih (i + 1) _ _ (by omega) (by omega) (nI_1 i) (by rw [drpG, if_pos h24]; exact hw1)
set_option maxHeartbeats 4000000 in
set_option maxRecDepth 20000 in
theorem ct_X7_dropOffersAtHome (hw : Wd E ad el g ws) {nP : Nat} (hP : g 0 9 = nI nP) (hP10 : nP ≤ 10) : Ct E yX7_dropOffersAtHome cX7_dropOffersAtHome 2 none 2 0 0 [.ref (ad 0)] ws (fun r w => r = none ∧ WF E ad el (drpG g nP) ws w) := by
  refine Ct_of mw_X7_dropOffersAtHome rfl (Nat.le_of_ble_eq_true rfl) ?_
  refine V_iconst (v := 0) dX7_dropOffersAtHome_0 (by decide) ?_
  refine V_istore_n dX7_dropOffersAtHome_1 (by decide) ?_
  exact lp_X7_dropOffersAtHome hP hP10 (nP + 1) 0 _ _ (Nat.zero_le _) (by omega) rfl (WF.rf hw)
set_option maxHeartbeats 4000000 in
set_option maxRecDepth 20000 in
theorem lp_X7_endCut {nP : Nat} (hP : g 0 9 = nI nP) (hP10 : nP ≤ 10) : ∀ (k i : Nat) (x : Int32) (ws : va_W), i ≤ nP → nP < i + k → x = nI i → WF E ad el (endG g i) w0 ws → V E yX7_endCut cX7_endCut 2 none 2 0 0 (fun r w => r = none ∧ WF E ad el (endG g nP) w0 w) 7 [some (.ref (ad 0)), some (.int x)] [] ws 0 0 := by
  intro k
  induction k with
  | zero => intro i x ws h1 h2; exact absurd h2 (by omega)
  | succ k ih =>
    intro i x ws hil hin hx hw
    subst hx
    refine V_iload_n dX7_endCut_7 rfl ?_
    refine V_aload_n dX7_endCut_8 rfl ?_
    refine V_get (0) fl_X7_65 dX7_endCut_9 hw.p0 rfl ?_
    refine V_icmp_ge 81 dX7_endCut_12 (by decide) (fun h12 => ?_) (fun h12 => ?_)
    · skip
      refine V_vret dX7_endCut_81 rfl (by decide) (by decide) ?_
      rw [show endG g i 0 9 = nI nP from by rw [endG_09]; exact hP] at h12
      have hi : i = nP := by have := leK (a := nP) (b := i) (by omega) (by omega) h12; omega
      subst hi
      exact ⟨rfl, hw⟩
    · skip
      rw [show endG g i 0 9 = nI nP from by rw [endG_09]; exact hP] at h12
      have hi := nleK (a := nP) (b := i) (by omega) (by omega) h12
      refine V_aload_n dX7_endCut_15 rfl ?_
      refine V_get (0) fl_X7_20 dX7_endCut_16 hw.p0 rfl ?_
      refine V_iload_n dX7_endCut_19 rfl ?_
      refine V_rdV (5) mw_X2_has mv_X7_98 dX7_endCut_20 (ct_X2_has hw (Or.inr rfl) (nI i)) hw.p5 rfl rfl rfl (Nat.le_of_ble_eq_true rfl) (by decide) (by decide) (by decide) (by decide) ?_
      refine V_if_eq 67 dX7_endCut_23 (by decide) (fun h23 => ?_) (fun h23 => ?_)
      · skip
        refine V_aload_n dX7_endCut_67 rfl ?_
        refine V_get (0) fl_X7_20 dX7_endCut_68 hw.p0 rfl ?_
        refine V_iload_n dX7_endCut_71 rfl ?_
        refine V_callV (5) mw_X2_drop mv_X7_101 dX7_endCut_72 (ct_X2_drop hw.1 (Or.inr rfl) (nI i)) hw.p5 rfl rfl rfl (Nat.le_of_ble_eq_true rfl) (by decide) (by decide) (by decide) (by decide) (fun r72 ws1 hp72 => ?_)
        obtain ⟨rfl, hw1⟩ := hp72
        have hw1 := hw.trans hw1
        refine V_iinc dX7_endCut_75 rfl rfl (by decide) ?_
        refine V_goto 7 dX7_endCut_78 (by decide) ?_
        have c : at10 (endG g i 6) (nI i) = -1 := by
          by_cases c : at10 (endG g i (5 + 1)) (nI i) = -1
          · exact c
          · rw [if_neg c] at h23
            exact absurd h23 (by decide)
        exact ih (i + 1) _ _ (by omega) (by omega) (nI_1 i) (by rw [endG, endStep, if_pos c]; exact hw1)
      · skip
        refine V_aload_n dX7_endCut_26 rfl ?_
        refine V_get (0) fl_X7_20 dX7_endCut_27 hw.p0 rfl ?_
        refine V_iload_n dX7_endCut_30 rfl ?_
        refine V_rdV (5) mw_X2_versionOf mv_X7_141 dX7_endCut_31 (ct_X2_versionOf hw (Or.inr rfl) (nI i)) hw.p5 rfl rfl rfl (Nat.le_of_ble_eq_true rfl) (by decide) (by decide) (by decide) (by decide) ?_
        refine V_aload_n dX7_endCut_34 rfl ?_
        refine V_get (0) fl_X7_9 dX7_endCut_35 hw.p0 rfl ?_
        refine V_iload_n dX7_endCut_38 rfl ?_
        refine V_ialdN (1) dX7_endCut_39 hw.p1 (by omega) (by first | decide | omega) ?_
        refine V_icmp_eq 67 dX7_endCut_40 (by decide) (fun h40 => ?_) (fun h40 => ?_)
        · skip
          refine V_aload_n dX7_endCut_67 rfl ?_
          refine V_get (0) fl_X7_20 dX7_endCut_68 hw.p0 rfl ?_
          refine V_iload_n dX7_endCut_71 rfl ?_
          refine V_callV (5) mw_X2_drop mv_X7_101 dX7_endCut_72 (ct_X2_drop hw.1 (Or.inr rfl) (nI i)) hw.p5 rfl rfl rfl (Nat.le_of_ble_eq_true rfl) (by decide) (by decide) (by decide) (by decide) (fun r72 ws1 hp72 => ?_)
          obtain ⟨rfl, hw1⟩ := hp72
          have hw1 := hw.trans hw1
          refine V_iinc dX7_endCut_75 rfl rfl (by decide) ?_
          refine V_goto 7 dX7_endCut_78 (by decide) ?_
          have c : ¬ at10 (endG g i 6) (nI i) = -1 := fun c => h23 (if_pos c)
          exact ih (i + 1) _ _ (by omega) (by omega) (nI_1 i) (by rw [endG, endStep, if_neg c, if_pos h40]; exact hw1)
        · skip
          refine V_aload_n dX7_endCut_43 rfl ?_
          refine V_get (0) fl_X7_16 dX7_endCut_44 hw.p0 rfl ?_
          refine V_iload_n dX7_endCut_47 rfl ?_
          refine V_aload_n dX7_endCut_48 rfl ?_
          refine V_get (0) fl_X7_20 dX7_endCut_49 hw.p0 rfl ?_
          refine V_iload_n dX7_endCut_52 rfl ?_
          refine V_rdV (5) mw_X2_versionOf mv_X7_141 dX7_endCut_53 (ct_X2_versionOf hw (Or.inr rfl) (nI i)) hw.p5 rfl rfl rfl (Nat.le_of_ble_eq_true rfl) (by decide) (by decide) (by decide) (by decide) ?_
          refine V_aload_n dX7_endCut_56 rfl ?_
          refine V_get (0) fl_X7_20 dX7_endCut_57 hw.p0 rfl ?_
          refine V_iload_n dX7_endCut_60 rfl ?_
          refine V_rdV (5) mw_X2_worthOf mv_X7_144 dX7_endCut_61 (ct_X2_worthOf hw (Or.inr rfl) (nI i)) hw.p5 rfl rfl rfl (Nat.le_of_ble_eq_true rfl) (by decide) (by decide) (by decide) (by decide) ?_
          refine V_callV (2) mw_X2_put mv_X7_94 dX7_endCut_64 (ct_X2_put hw.1 (Or.inl rfl) (nI i) _ _) hw.p2 rfl rfl rfl (Nat.le_of_ble_eq_true rfl) (by decide) (by decide) (by decide) (by decide) (fun r64 ws1 hp64 => ?_)
          obtain ⟨rfl, hw1⟩ := hp64
          have hw1 := hw.trans hw1
          refine V_aload_n dX7_endCut_67 rfl ?_
          refine V_get (0) fl_X7_20 dX7_endCut_68 hw1.p0 rfl ?_
          refine V_iload_n dX7_endCut_71 rfl ?_
          refine V_callV (5) mw_X2_drop mv_X7_101 dX7_endCut_72 (ct_X2_drop hw1.1 (Or.inr rfl) (nI i)) hw1.p5 rfl rfl rfl (Nat.le_of_ble_eq_true rfl) (by decide) (by decide) (by decide) (by decide) (fun r72 ws2 hp72 => ?_)
          obtain ⟨rfl, hw2⟩ := hp72
          have hw2 := hw1.trans hw2
          refine V_iinc dX7_endCut_75 rfl rfl (by decide) ?_
          refine V_goto 7 dX7_endCut_78 (by decide) ?_
          have c : ¬ at10 (endG g i 6) (nI i) = -1 := fun c => h23 (if_pos c)
          exact ih (i + 1) _ _ (by omega) (by omega) (nI_1 i) (by rw [endG, endStep, if_neg c, if_neg h40]; exact hw2)
set_option maxHeartbeats 4000000 in
set_option maxRecDepth 20000 in
theorem ct_X7_endCut (hw : Wd E ad el g ws) {nP : Nat} (hP : g 0 9 = nI nP) (hP10 : nP ≤ 10) : Ct E yX7_endCut cX7_endCut 2 none 2 0 0 [.ref (ad 0)] ws (fun r w => r = none ∧ WF E ad el (endG g nP) ws w) := by
  refine Ct_of mw_X7_endCut rfl (Nat.le_of_ble_eq_true rfl) ?_
  have hw := WF.rf hw
  refine V_aload_n dX7_endCut_0 rfl ?_
  refine V_iconst (v := -1) dX7_endCut_1 (by decide) ?_
  refine W_put (0) hw (by decide) fp_X7_69 dX7_endCut_2 rfl rfl rfl rfl (Nat.le_of_ble_eq_true rfl) (fun ws1 hw1 => ?_)
  refine V_iconst (v := 0) dX7_endCut_5 (by decide) ?_
  refine V_istore_n dX7_endCut_6 (by decide) ?_
  exact lp_X7_endCut hP hP10 (nP + 1) 0 _ _ (Nat.zero_le _) (by omega) rfl hw1
end DK1
