/-! ===== TrainDesk: fix, leave ===== -/
def dFix (g : Nat → Nat → Int32) (nN nT : Nat) (p v u : Int32) : Int32 × (Nat → Nat → Int32) := if mayB g p v u = true then (if goesB (wTo (put10 g 2 p v u) nN) nN nT (orI g p) = true then (1, chooseG (wTo (put10 g 2 p v u) nN) nN (orI g p).toNatClampNeg) else (0, put10 (wTo (put10 g 2 p v u) nN) 2 p (at10 (g 3) p) (at10 (g 4) p))) else (-1, g)
def lvS (g : Nat → Nat → Int32) (nN nT : Nat) (p v u : Int32) : Option Nat := grt (wTo (put10 g 2 p v u) nN) nN nT (orI g p).toNatClampNeg ((1 : Int32) <<< (p &&& 31)).toNatClampNeg
def dLeave (g : Nat → Nat → Int32) (nN nT : Nat) (p v u : Int32) : Int32 × (Nat → Nat → Int32) := if mayB g p v u = true then (if sI (lvS g nN nT p v u) = -1 then -1 else g 0 10 &&& (sI (lvS g nN nT p v u) ^^^ -1), put10 (wTo (put10 g 2 p v u) nN) 2 p (at10 (g 3) p) (at10 (g 4) p)) else (-1, g)
theorem mayB_pt {g : Nat → Nat → Int32} {p v u : Int32} (h : mayB g p v u = true) : cutB g = true ∧ isPt g p = true := by
  simp only [mayB, Bool.and_eq_true] at h
  exact ⟨h.1, h.2.1⟩
theorem orI_set {g : Nat → Nat → Int32} {p v u : Int32} {nP : Nat} (hP : g 0 9 = nI nP) (hP10 : nP ≤ 10) (hC : COK g) (h : mayB g p v u = true) : ∃ j C, j < nP ∧ C < 1024 ∧ p = nI j ∧ g 0 10 = nI C ∧ orI g p = nI (C ||| 2 ^ j) ∧ (1 : Int32) <<< (p &&& 31) = nI (2 ^ j) := by
  obtain ⟨h1, h2⟩ := mayB_pt h
  obtain ⟨j, hj, rfl⟩ := isPt_in hP hP10 h2
  obtain ⟨C, hC1, hC2⟩ := hC h1
  exact ⟨j, C, hj, hC1, rfl, hC2, by rw [orI, hC2, shl1 j (by omega), nx_or], shl1 j (by omega)⟩
section DK3
variable {E : VE} {ad : Nat → Nat} {el : Nat} {g : Nat → Nat → Int32} {w0 ws : va_W}
set_option maxHeartbeats 4000000 in
set_option maxRecDepth 20000 in
theorem ct_X7_fix (hw : Wd E ad el g ws) {nN : Nat} (hN : g 8 7 = nI nN) (hN30 : nN ≤ 30) (hok : NOK g nN) {nT : Nat} (hT : g 16 1 = nI nT) (hT12 : nT ≤ 12) {nP : Nat} (hP : g 0 9 = nI nP) (hP10 : nP ≤ 10) (hC : COK g) (p v u : Int32) : Ct E yX7_fix cX7_fix 7 (some (.int)) 5 0 0 [.ref (ad 0), .int p, .int v, .int u] ws (fun r w => r = some (.int (dFix g nN nT p v u).1) ∧ WF E ad el (dFix g nN nT p v u).2 ws w) := by
  refine Ct_of mw_X7_fix rfl (Nat.le_of_ble_eq_true rfl) ?_
  have hw := WF.rf hw
  have e0 : ∀ k, k ≠ 3 → k ≠ 4 → put10 g 2 p v u k = g k := fun k h1 h2 => put10_low g 2 p v u k h1 h2
  have hN1 : put10 g 2 p v u 8 7 = nI nN := by rw [e0 8 (by decide) (by decide)]; exact hN
  have hT1 : put10 g 2 p v u 16 1 = nI nT := by rw [e0 16 (by decide) (by decide)]; exact hT
  have hok1 : NOK (put10 g 2 p v u) nN := hok.to (e0 9 (by decide) (by decide)) (e0 11 (by decide) (by decide))
  have hch : wTo (put10 g 2 p v u) nN 0 10 = g 0 10 := by rw [show wTo (put10 g 2 p v u) nN 0 = put10 g 2 p v u 0 from rfl, e0 0 (by decide) (by decide)]
  have hch1 : put10 g 2 p v u 0 10 = g 0 10 := by rw [e0 0 (by decide) (by decide)]
  have hcho : mayB g p v u = true → ∀ {w : va_W}, Wd E ad el (wTo (put10 g 2 p v u) nN) w → Ct E yX7_choose cX7_choose 2 none 4 0 0 [.ref (ad 0), .int (orI g p)] w (fun r w9 => r = none ∧ WF E ad el (chooseG (wTo (put10 g 2 p v u) nN) nN (orI g p).toNatClampNeg) w w9) := by
    intro h w hw
    obtain ⟨j, C, hj, hC1, -, -, e2, -⟩ := orI_set hP hP10 hC h
    have hS := or_lt hC1 (show j < 10 by omega)
    rw [e2, nI_clamp (by omega)]
    exact ct_X7_choose hw hN1 hN30 (hok1.to rfl rfl) hS
  refine V_aload_n dX7_fix_0 rfl ?_
  refine V_iload_n dX7_fix_1 rfl ?_
  refine V_iload_n dX7_fix_2 rfl ?_
  refine V_iload_n dX7_fix_3 rfl ?_
  refine V_rdV (0) mw_X7_mayFix mv_X7_137 dX7_fix_4 (ct_X7_mayFix hw hP hP10 p v u) hw.p0 rfl rfl rfl (Nat.le_of_ble_eq_true rfl) (by decide) (by decide) (by decide) (by decide) ?_
  refine V_if_ne 12 dX7_fix_7 (by decide) (fun h7 => ?_) (fun h7 => ?_)
  · skip
    refine V_aload_n dX7_fix_12 rfl ?_
    refine V_get (0) fl_X7_16 dX7_fix_13 hw.p0 rfl ?_
    refine V_iload_n dX7_fix_16 rfl ?_
    refine V_rdV (2) mw_X2_versionOf mv_X7_141 dX7_fix_17 (ct_X2_versionOf hw (Or.inl rfl) p) hw.p2 rfl rfl rfl (Nat.le_of_ble_eq_true rfl) (by decide) (by decide) (by decide) (by decide) ?_
    refine V_istore dX7_fix_20 (by decide) ?_
    refine V_aload_n dX7_fix_22 rfl ?_
    refine V_get (0) fl_X7_16 dX7_fix_23 hw.p0 rfl ?_
    refine V_iload_n dX7_fix_26 rfl ?_
    refine V_rdV (2) mw_X2_worthOf mv_X7_144 dX7_fix_27 (ct_X2_worthOf hw (Or.inl rfl) p) hw.p2 rfl rfl rfl (Nat.le_of_ble_eq_true rfl) (by decide) (by decide) (by decide) (by decide) ?_
    refine V_istore dX7_fix_30 (by decide) ?_
    refine V_aload_n dX7_fix_32 rfl ?_
    refine V_get (0) fl_X7_16 dX7_fix_33 hw.p0 rfl ?_
    refine V_iload_n dX7_fix_36 rfl ?_
    refine V_iload_n dX7_fix_37 rfl ?_
    refine V_iload_n dX7_fix_38 rfl ?_
    refine V_callV (2) mw_X2_put mv_X7_94 dX7_fix_39 (ct_X2_put hw.1 (Or.inl rfl) p v u) hw.p2 rfl rfl rfl (Nat.le_of_ble_eq_true rfl) (by decide) (by decide) (by decide) (by decide) (fun r39 ws1 hp39 => ?_)
    obtain ⟨rfl, hw1⟩ := hp39
    have hw1 := hw.trans hw1
    refine V_aload_n dX7_fix_42 rfl ?_
    refine V_get (0) fl_X7_26 dX7_fix_43 hw1.p0 rfl ?_
    refine V_aload_n dX7_fix_46 rfl ?_
    refine V_get (0) fl_X7_9 dX7_fix_47 hw1.p0 rfl ?_
    refine V_aload_n dX7_fix_50 rfl ?_
    refine V_get (0) fl_X7_16 dX7_fix_51 hw1.p0 rfl ?_
    refine V_callV (8) mw_X1_weigh mv_X7_147 dX7_fix_54 (ct_X1_weigh hw1.1 hN1 hN30 hok1) hw1.p8 rfl rfl rfl (Nat.le_of_ble_eq_true rfl) (by decide) (by decide) (by decide) (by decide) (fun r54 ws2 hp54 => ?_)
    obtain ⟨rfl, hw2⟩ := hp54
    have hw2 := hw1.trans hw2
    refine V_aload_n dX7_fix_57 rfl ?_
    refine V_get (0) fl_X7_69 dX7_fix_58 hw2.p0 rfl ?_
    rw [hch]
    refine V_iconst (v := 1) dX7_fix_61 (by decide) ?_
    refine V_iload_n dX7_fix_62 rfl ?_
    refine V_ishl dX7_fix_63 ?_
    refine V_ior dX7_fix_64 ?_
    refine V_istore dX7_fix_65 (by decide) ?_
    refine V_aload_n dX7_fix_67 rfl ?_
    refine V_iload dX7_fix_68 rfl ?_
    refine V_rdV (0) mw_X7_goes mv_X7_151 dX7_fix_70 (ct_X7_goes (g := wTo (put10 g 2 p v u) nN) hw2 hN1 hN30 hT1 hT12 (orI g p)) hw2.p0 rfl rfl rfl (Nat.le_of_ble_eq_true rfl) (by decide) (by decide) (by decide) (by decide) ?_
    refine V_if_eq 84 dX7_fix_73 (by decide) (fun h73 => ?_) (fun h73 => ?_)
    · skip
      refine V_aload_n dX7_fix_84 rfl ?_
      refine V_get (0) fl_X7_16 dX7_fix_85 hw2.p0 rfl ?_
      refine V_iload_n dX7_fix_88 rfl ?_
      refine V_iload dX7_fix_89 rfl ?_
      refine V_iload dX7_fix_91 rfl ?_
      refine V_callV (2) mw_X2_put mv_X7_94 dX7_fix_93 (ct_X2_put hw2.1 (Or.inl rfl) p _ _) hw2.p2 rfl rfl rfl (Nat.le_of_ble_eq_true rfl) (by decide) (by decide) (by decide) (by decide) (fun r93 ws3 hp93 => ?_)
      obtain ⟨rfl, hw3⟩ := hp93
      have hw3 := hw2.trans hw3
      refine V_iconst (v := 0) dX7_fix_96 (by decide) ?_
      refine V_iret dX7_fix_97 rfl (by decide) (by decide) ?_
      exact fin2 (by rw [dFix, if_pos (bI_1 h7), if_neg (nb (bI_0 h73))]) hw3
    · skip
      refine V_aload_n dX7_fix_76 rfl ?_
      refine V_iload dX7_fix_77 rfl ?_
      refine V_callV (0) mw_X7_choose mv_X7_128 dX7_fix_79 (hcho (bI_1 h7) hw2.1) hw2.p0 rfl rfl rfl (Nat.le_of_ble_eq_true rfl) (by decide) (by decide) (by decide) (by decide) (fun r79 ws3 hp79 => ?_)
      obtain ⟨rfl, hw3⟩ := hp79
      have hw3 := hw2.trans hw3
      refine V_iconst (v := 1) dX7_fix_82 (by decide) ?_
      refine V_iret dX7_fix_83 rfl (by decide) (by decide) ?_
      exact fin2 (by rw [dFix, if_pos (bI_1 h7), if_pos (bI_1 h73)]) hw3
  · skip
    refine V_iconst (v := -1) dX7_fix_10 (by decide) ?_
    refine V_iret dX7_fix_11 rfl (by decide) (by decide) ?_
    exact fin2 (by rw [dFix, if_neg (nb (bI_0 h7))]) hw
set_option maxHeartbeats 4000000 in
set_option maxRecDepth 20000 in
theorem ct_X7_leave (hw : Wd E ad el g ws) {nN : Nat} (hN : g 8 7 = nI nN) (hN30 : nN ≤ 30) (hok : NOK g nN) {nT : Nat} (hT : g 16 1 = nI nT) (hT12 : nT ≤ 12) {nP : Nat} (hP : g 0 9 = nI nP) (hP10 : nP ≤ 10) (hC : COK g) (p v u : Int32) : Ct E yX7_leave cX7_leave 7 (some (.int)) 5 0 0 [.ref (ad 0), .int p, .int v, .int u] ws (fun r w => r = some (.int (dLeave g nN nT p v u).1) ∧ WF E ad el (dLeave g nN nT p v u).2 ws w) := by
  refine Ct_of mw_X7_leave rfl (Nat.le_of_ble_eq_true rfl) ?_
  have hw := WF.rf hw
  have e0 : ∀ k, k ≠ 3 → k ≠ 4 → put10 g 2 p v u k = g k := fun k h1 h2 => put10_low g 2 p v u k h1 h2
  have hN1 : put10 g 2 p v u 8 7 = nI nN := by rw [e0 8 (by decide) (by decide)]; exact hN
  have hT1 : put10 g 2 p v u 16 1 = nI nT := by rw [e0 16 (by decide) (by decide)]; exact hT
  have hok1 : NOK (put10 g 2 p v u) nN := hok.to (e0 9 (by decide) (by decide)) (e0 11 (by decide) (by decide))
  have hch : wTo (put10 g 2 p v u) nN 0 10 = g 0 10 := by rw [show wTo (put10 g 2 p v u) nN 0 = put10 g 2 p v u 0 from rfl, e0 0 (by decide) (by decide)]
  have hch1 : put10 g 2 p v u 0 10 = g 0 10 := by rw [e0 0 (by decide) (by decide)]
  have hgr : mayB g p v u = true → ∀ {w : va_W}, Wd E ad el (put10 g 2 p v u) w → Ct E yX7_greatest cX7_greatest 8 (some (.int)) 4 0 0 [.ref (ad 0), .int (orI g p), .int ((1 : Int32) <<< (p &&& 31))] w (fun r w9 => r = some (.int (sI (lvS g nN nT p v u))) ∧ WF E ad el (wTo (put10 g 2 p v u) nN) w w9) := by
    intro h w hw
    obtain ⟨j, C, hj, hC1, -, -, e2, e3⟩ := orI_set hP hP10 hC h
    have hS := or_lt hC1 (show j < 10 by omega)
    have hU : 2 ^ j < 2 ^ 10 := Nat.pow_lt_pow_right (by decide) (by omega)
    unfold lvS
    rw [e2, e3, nI_clamp (by omega), nI_clamp (by omega)]
    exact ct_X7_greatest hw hN1 hN30 hok1 hT1 hT12 hS hU
  refine V_aload_n dX7_leave_0 rfl ?_
  refine V_iload_n dX7_leave_1 rfl ?_
  refine V_iload_n dX7_leave_2 rfl ?_
  refine V_iload_n dX7_leave_3 rfl ?_
  refine V_rdV (0) mw_X7_mayFix mv_X7_137 dX7_leave_4 (ct_X7_mayFix hw hP hP10 p v u) hw.p0 rfl rfl rfl (Nat.le_of_ble_eq_true rfl) (by decide) (by decide) (by decide) (by decide) ?_
  refine V_if_ne 12 dX7_leave_7 (by decide) (fun h7 => ?_) (fun h7 => ?_)
  · skip
    refine V_aload_n dX7_leave_12 rfl ?_
    refine V_get (0) fl_X7_16 dX7_leave_13 hw.p0 rfl ?_
    refine V_iload_n dX7_leave_16 rfl ?_
    refine V_rdV (2) mw_X2_versionOf mv_X7_141 dX7_leave_17 (ct_X2_versionOf hw (Or.inl rfl) p) hw.p2 rfl rfl rfl (Nat.le_of_ble_eq_true rfl) (by decide) (by decide) (by decide) (by decide) ?_
    refine V_istore dX7_leave_20 (by decide) ?_
    refine V_aload_n dX7_leave_22 rfl ?_
    refine V_get (0) fl_X7_16 dX7_leave_23 hw.p0 rfl ?_
    refine V_iload_n dX7_leave_26 rfl ?_
    refine V_rdV (2) mw_X2_worthOf mv_X7_144 dX7_leave_27 (ct_X2_worthOf hw (Or.inl rfl) p) hw.p2 rfl rfl rfl (Nat.le_of_ble_eq_true rfl) (by decide) (by decide) (by decide) (by decide) ?_
    refine V_istore dX7_leave_30 (by decide) ?_
    refine V_aload_n dX7_leave_32 rfl ?_
    refine V_get (0) fl_X7_16 dX7_leave_33 hw.p0 rfl ?_
    refine V_iload_n dX7_leave_36 rfl ?_
    refine V_iload_n dX7_leave_37 rfl ?_
    refine V_iload_n dX7_leave_38 rfl ?_
    refine V_callV (2) mw_X2_put mv_X7_94 dX7_leave_39 (ct_X2_put hw.1 (Or.inl rfl) p v u) hw.p2 rfl rfl rfl (Nat.le_of_ble_eq_true rfl) (by decide) (by decide) (by decide) (by decide) (fun r39 ws1 hp39 => ?_)
    obtain ⟨rfl, hw1⟩ := hp39
    have hw1 := hw.trans hw1
    refine V_aload_n dX7_leave_42 rfl ?_
    refine V_aload_n dX7_leave_43 rfl ?_
    refine V_get (0) fl_X7_69 dX7_leave_44 hw1.p0 rfl ?_
    rw [hch1]
    refine V_iconst (v := 1) dX7_leave_47 (by decide) ?_
    refine V_iload_n dX7_leave_48 rfl ?_
    refine V_ishl dX7_leave_49 ?_
    refine V_ior dX7_leave_50 ?_
    refine V_iconst (v := 1) dX7_leave_51 (by decide) ?_
    refine V_iload_n dX7_leave_52 rfl ?_
    refine V_ishl dX7_leave_53 ?_
    refine V_callV (0) mw_X7_greatest mv_X7_124 dX7_leave_54 (hgr (bI_1 h7) hw1.1) hw1.p0 rfl rfl rfl (Nat.le_of_ble_eq_true rfl) (by decide) (by decide) (by decide) (by decide) (fun r54 ws2 hp54 => ?_)
    obtain ⟨rfl, hw2⟩ := hp54
    have hw2 := hw1.trans hw2
    refine V_istore dX7_leave_57 (by decide) ?_
    refine V_aload_n dX7_leave_59 rfl ?_
    refine V_get (0) fl_X7_16 dX7_leave_60 hw2.p0 rfl ?_
    refine V_iload_n dX7_leave_63 rfl ?_
    refine V_iload dX7_leave_64 rfl ?_
    refine V_iload dX7_leave_66 rfl ?_
    refine V_callV (2) mw_X2_put mv_X7_94 dX7_leave_68 (ct_X2_put hw2.1 (Or.inl rfl) p _ _) hw2.p2 rfl rfl rfl (Nat.le_of_ble_eq_true rfl) (by decide) (by decide) (by decide) (by decide) (fun r68 ws3 hp68 => ?_)
    obtain ⟨rfl, hw3⟩ := hp68
    have hw3 := hw2.trans hw3
    refine V_iload dX7_leave_71 rfl ?_
    refine V_iconst (v := -1) dX7_leave_73 (by decide) ?_
    refine V_icmp_ne 81 dX7_leave_74 (by decide) (fun h74 => ?_) (fun h74 => ?_)
    · skip
      refine V_aload_n dX7_leave_81 rfl ?_
      refine V_get (0) fl_X7_69 dX7_leave_82 hw3.p0 rfl ?_
      rw [show put10 (wTo (put10 g 2 p v u) nN) 2 p (at10 (g (2 + 1)) p) (at10 (g (2 + 2)) p) 0 10 = g 0 10 from by rw [put10_low _ _ _ _ _ _ (by decide) (by decide)]; exact hch]
      refine V_iload dX7_leave_85 rfl ?_
      refine V_iconst (v := -1) dX7_leave_87 (by decide) ?_
      refine V_ixor dX7_leave_88 ?_
      refine V_iand dX7_leave_89 ?_
      refine V_iret dX7_leave_90 rfl (by decide) (by decide) ?_
      exact fin2 (by rw [dLeave, if_pos (bI_1 h7), if_neg h74]) hw3
    · skip
      refine V_iconst (v := -1) dX7_leave_77 (by decide) ?_
      refine V_goto 90 dX7_leave_78 (by decide) ?_
      refine V_iret dX7_leave_90 rfl (by decide) (by decide) ?_
      exact fin2 (by rw [dLeave, if_pos (bI_1 h7), if_pos h74]) hw3
  · skip
    refine V_iconst (v := -1) dX7_leave_10 (by decide) ?_
    refine V_iret dX7_leave_11 rfl (by decide) (by decide) ?_
    exact fin2 (by rw [dLeave, if_neg (nb (bI_0 h7))]) hw
end DK3
