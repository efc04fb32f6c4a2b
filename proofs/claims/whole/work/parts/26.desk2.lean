/-! ===== TrainDesk: greatest, and the calls that leave the trains alone ===== -/
/-- of the sets within M that have all of U: is s better than b (worth w), and does it go -/
def candB (g : Nat → Nat → Int32) (nN nT M U s : Nat) (b : Option Nat) (w : Int32) : Bool := decide (dif s M = 0) && (decide (s &&& U = U) && ((decide (w < sumI (g 4) s 10) || (decide (sumI (g 4) s 10 = w) && lowerB (nI s) (sI b))) && goesB g nN nT (nI s)))
def grL (g : Nat → Nat → Int32) (nN nT M U : Nat) : Nat → Option Nat → Int32 → Option Nat
  | 0, b, _ => b
  | k + 1, b, w => if k < U then b else if candB g nN nT M U k b w = true then grL g nN nT M U k (some k) (sumI (g 4) k 10) else grL g nN nT M U k b w
def grt (g : Nat → Nat → Int32) (nN nT M U : Nat) : Option Nat := grL g nN nT M U (M + 1) none (-1)
theorem nb {b : Bool} (h : b = false) : ¬ b = true := by rw [h]; decide
theorem grL_lt {g : Nat → Nat → Int32} {nN nT M U : Nat} : ∀ (k : Nat) (b : Option Nat) (w : Int32), k ≤ 1024 → (∀ s, b = some s → s < 1024) → ∀ s, grL g nN nT M U k b w = some s → s < 1024
  | 0, b, _, _, hb, s, h => hb s h
  | k + 1, b, w, hk, hb, s, h => by
    unfold grL at h
    split at h
    · exact hb s h
    · split at h
      · exact grL_lt k _ _ (by omega) (fun s h => by cases h; omega) s h
      · exact grL_lt k _ _ (by omega) hb s h
theorem NOK.to {g g' : Nat → Nat → Int32} {n : Nat} (h : NOK g n) (h1 : g' 9 = g 9) (h2 : g' 11 = g 11) : NOK g' n := fun k hk => by rw [h1, h2]; exact h k hk
theorem maskN_lt (f : Nat → Int32) : ∀ n, maskN f n < 2 ^ n
  | 0 => Nat.zero_lt_one
  | n + 1 => by
    unfold maskN
    have h := maskN_lt f n
    have h2 : 2 ^ n < 2 ^ (n + 1) := Nat.pow_lt_pow_right (by decide) (by omega)
    split
    · omega
    · exact Nat.or_lt_two_pow (by omega) h2
section DK2
variable {E : VE} {ad : Nat → Nat} {el : Nat} {g : Nat → Nat → Int32} {w0 ws : va_W}
theorem fin2 {p : Int32 × (Nat → Nat → Int32)} {x : Int32} {G : Nat → Nat → Int32} {w : va_W} (e : p = (x, G)) (h : WF E ad el G ws w) : some (Value.int x) = some (.int p.1) ∧ WF E ad el p.2 ws w := by subst e; exact ⟨rfl, h⟩
theorem fin1 {x y : Int32} (e : y = x) : some (Value.int x) = some (.int y) ∧ ws = ws := by subst e; exact ⟨rfl, rfl⟩
set_option maxHeartbeats 4000000 in
set_option maxRecDepth 20000 in
theorem lp_X7_greatest (hw : WF E ad el g w0 ws) {nN : Nat} (hN : g 8 7 = nI nN) (hN30 : nN ≤ 30) {nT : Nat} (hT : g 16 1 = nI nT) (hT12 : nT ≤ 12) {M U : Nat} (hM : M < 1024) (hU : U < 1024) : ∀ (k : Nat) (b : Option Nat) (w xb x : Int32) (z6 z7 : Option Value), xb = sI b → x = nI k + (-1) → k ≤ 1024 → (∀ s, b = some s → s < 1024) → grt g nN nT M U = grL g nN nT M U k b w → V E yX7_greatest cX7_greatest 8 (some (.int)) 4 0 0 (fun r w => r = some (.int (sI (grt g nN nT M U))) ∧ WF E ad el g w0 w) 23 [some (.ref (ad 0)), some (.int (nI M)), some (.int (nI U)), some (.int xb), some (.int w), some (.int x), z6, z7] [] ws 0 0 := by
  intro k
  induction k with
  | zero =>
    intro b w xb x z6 z7 hxb hx hk hb hinv
    subst hxb
    rw [show nI 0 + (-1 : Int32) = -1 from by decide] at hx
    subst hx
    refine V_iload dX7_greatest_23 rfl ?_
    refine V_iload_n dX7_greatest_25 rfl ?_
    refine V_icmp_lt 114 dX7_greatest_26 (by decide) (fun h26 => ?_) (fun h26 => absurd (show (-1 : Int32) < nI U from by have := nI_pos (n := U) (by omega); rw [Int32.lt_iff_toInt_lt, nI_toInt (by omega)]; show (-1 : Int) < _; omega) h26)
    refine V_iload_n dX7_greatest_114 rfl ?_
    refine V_iret dX7_greatest_115 rfl (by decide) (by decide) ?_
    exact ⟨by rw [hinv, grL], hw⟩
  | succ k ih =>
    intro b w xb x z6 z7 hxb hx hk hb hinv
    subst hxb
    rw [pk_m1] at hx
    subst hx
    refine V_iload dX7_greatest_23 rfl ?_
    refine V_iload_n dX7_greatest_25 rfl ?_
    refine V_icmp_lt 114 dX7_greatest_26 (by decide) (fun h26 => ?_) (fun h26 => ?_)
    · skip
      refine V_iload_n dX7_greatest_114 rfl ?_
      refine V_iret dX7_greatest_115 rfl (by decide) (by decide) ?_
      have hkU := ltK (a := k) (b := U) (by omega) (by omega) h26
      exact ⟨by rw [hinv, grL, if_pos hkU], hw⟩
    · skip
      have hkU := nltK (a := k) (b := U) (by omega) (by omega) h26
      refine V_iload dX7_greatest_29 rfl ?_
      refine V_iload_n dX7_greatest_31 rfl ?_
      refine V_iconst (v := -1) dX7_greatest_32 (by decide) ?_
      refine V_ixor dX7_greatest_33 ?_
      refine V_iand dX7_greatest_34 ?_
      rw [nx_dif]
      refine V_if_ne 108 dX7_greatest_35 (by decide) (fun h35 => ?_) (fun h35 => ?_)
      · skip
        refine V_iinc dX7_greatest_108 rfl rfl (by decide) ?_
        refine V_goto 23 dX7_greatest_111 (by decide) ?_
        have q1 : ¬ dif k M = 0 := fun z => h35 (by rw [z]; rfl)
        have c : candB g nN nT M U k b w = false := by simp [candB, q1]
        exact ih _ _ _ _ _ _ rfl rfl (by omega) hb (by rw [hinv, grL, if_neg (by omega), if_neg (nb c)])
      · skip
        refine V_iload dX7_greatest_38 rfl ?_
        refine V_iload_n dX7_greatest_40 rfl ?_
        refine V_iand dX7_greatest_41 ?_
        refine V_iload_n dX7_greatest_42 rfl ?_
        refine V_icmp_ne 108 dX7_greatest_43 (by decide) (fun h43 => ?_) (fun h43 => ?_)
        · skip
          refine V_iinc dX7_greatest_108 rfl rfl (by decide) ?_
          refine V_goto 23 dX7_greatest_111 (by decide) ?_
          have q1 : dif k M = 0 := nI_inj1024 (dif_lt (by omega)) (by decide) h35
          have q2 : ¬ k &&& U = U := fun z => h43 (by rw [nx_and, z])
          have c : candB g nN nT M U k b w = false := by simp [candB, q1, q2]
          exact ih _ _ _ _ _ _ rfl rfl (by omega) hb (by rw [hinv, grL, if_neg (by omega), if_neg (nb c)])
        · skip
          refine V_aload_n dX7_greatest_46 rfl ?_
          refine V_get (0) fl_X7_16 dX7_greatest_47 hw.p0 rfl ?_
          refine V_iload dX7_greatest_50 rfl ?_
          refine V_rdV (2) mw_X2_sum mv_X7_131 dX7_greatest_52 (ct_X2_sum hw (Or.inl rfl) k (by omega)) hw.p2 rfl rfl rfl (Nat.le_of_ble_eq_true rfl) (by decide) (by decide) (by decide) (by decide) ?_
          refine V_istore dX7_greatest_55 (by decide) ?_
          refine V_iload dX7_greatest_57 rfl ?_
          refine V_iload dX7_greatest_59 rfl ?_
          refine V_icmp_gt 80 dX7_greatest_61 (by decide) (fun h61 => ?_) (fun h61 => ?_)
          · skip
            refine V_iconst (v := 1) dX7_greatest_80 (by decide) ?_
            refine V_goto 85 dX7_greatest_81 (by decide) ?_
            refine V_istore dX7_greatest_85 (by decide) ?_
            refine V_iload dX7_greatest_87 rfl ?_
            refine V_if_eq 108 dX7_greatest_89 (by decide) (fun h89 => absurd h89 (by decide)) (fun h89 => ?_)
            refine V_aload_n dX7_greatest_92 rfl ?_
            refine V_iload dX7_greatest_93 rfl ?_
            refine V_rdV (0) mw_X7_goes mv_X7_151 dX7_greatest_95 (ct_X7_goes hw hN hN30 hT hT12 _) hw.p0 rfl rfl rfl (Nat.le_of_ble_eq_true rfl) (by decide) (by decide) (by decide) (by decide) ?_
            refine V_if_eq 108 dX7_greatest_98 (by decide) (fun h98 => ?_) (fun h98 => ?_)
            · skip
              refine V_iinc dX7_greatest_108 rfl rfl (by decide) ?_
              refine V_goto 23 dX7_greatest_111 (by decide) ?_
              have q1 : dif k M = 0 := nI_inj1024 (dif_lt (by omega)) (by decide) h35
              have q2 : k &&& U = U := nI_inj1024 (Nat.lt_of_le_of_lt Nat.and_le_left (by omega)) hU (by rw [← nx_and]; exact h43)
              have h61 : w < sumI (g 4) k 10 := h61
              have q5 := bI_0 h98
              have c : candB g nN nT M U k b w = false := by simp [candB, q1, q2, h61, q5]
              exact ih _ _ _ _ _ _ rfl rfl (by omega) hb (by rw [hinv, grL, if_neg (by omega), if_neg (nb c)])
            · skip
              refine V_iload dX7_greatest_101 rfl ?_
              refine V_istore_n dX7_greatest_103 (by decide) ?_
              refine V_iload dX7_greatest_104 rfl ?_
              refine V_istore dX7_greatest_106 (by decide) ?_
              refine V_iinc dX7_greatest_108 rfl rfl (by decide) ?_
              refine V_goto 23 dX7_greatest_111 (by decide) ?_
              have q1 : dif k M = 0 := nI_inj1024 (dif_lt (by omega)) (by decide) h35
              have q2 : k &&& U = U := nI_inj1024 (Nat.lt_of_le_of_lt Nat.and_le_left (by omega)) hU (by rw [← nx_and]; exact h43)
              have h61 : w < sumI (g 4) k 10 := h61
              have q5 := bI_1 h98
              have c : candB g nN nT M U k b w = true := by simp [candB, q1, q2, h61, q5]
              exact ih (some k) _ _ _ _ _ rfl rfl (by omega) (fun s h => by cases h; omega) (by rw [hinv, grL, if_neg (by omega), if_pos c])
          · skip
            refine V_iload dX7_greatest_64 rfl ?_
            refine V_iload dX7_greatest_66 rfl ?_
            refine V_icmp_ne 84 dX7_greatest_68 (by decide) (fun h68 => ?_) (fun h68 => ?_)
            · skip
              refine V_iconst (v := 0) dX7_greatest_84 (by decide) ?_
              refine V_istore dX7_greatest_85 (by decide) ?_
              refine V_iload dX7_greatest_87 rfl ?_
              refine V_if_eq 108 dX7_greatest_89 (by decide) (fun h89 => ?_) (fun h89 => absurd rfl h89)
              refine V_iinc dX7_greatest_108 rfl rfl (by decide) ?_
              refine V_goto 23 dX7_greatest_111 (by decide) ?_
              have q1 : dif k M = 0 := nI_inj1024 (dif_lt (by omega)) (by decide) h35
              have q2 : k &&& U = U := nI_inj1024 (Nat.lt_of_le_of_lt Nat.and_le_left (by omega)) hU (by rw [← nx_and]; exact h43)
              have h61 : ¬ w < sumI (g 4) k 10 := h61
              have h68 : ¬ sumI (g 4) k 10 = w := h68
              have c : candB g nN nT M U k b w = false := by simp [candB, q1, q2, h61, h68]
              exact ih _ _ _ _ _ _ rfl rfl (by omega) hb (by rw [hinv, grL, if_neg (by omega), if_neg (nb c)])
            · skip
              refine V_iload dX7_greatest_71 rfl ?_
              refine V_iload_n dX7_greatest_73 rfl ?_
              refine V_rdS mw_X7_hasLowerPart ms_X7_251 dX7_greatest_74 (ct_X7_hasLowerPart _ _) rfl rfl (Nat.le_of_ble_eq_true rfl) (by decide) (by decide) (by decide) (by decide) ?_
              refine V_if_eq 84 dX7_greatest_77 (by decide) (fun h77 => ?_) (fun h77 => ?_)
              · skip
                refine V_iconst (v := 0) dX7_greatest_84 (by decide) ?_
                refine V_istore dX7_greatest_85 (by decide) ?_
                refine V_iload dX7_greatest_87 rfl ?_
                refine V_if_eq 108 dX7_greatest_89 (by decide) (fun h89 => ?_) (fun h89 => absurd rfl h89)
                refine V_iinc dX7_greatest_108 rfl rfl (by decide) ?_
                refine V_goto 23 dX7_greatest_111 (by decide) ?_
                have q1 : dif k M = 0 := nI_inj1024 (dif_lt (by omega)) (by decide) h35
                have q2 : k &&& U = U := nI_inj1024 (Nat.lt_of_le_of_lt Nat.and_le_left (by omega)) hU (by rw [← nx_and]; exact h43)
                have h61 : ¬ w < sumI (g 4) k 10 := h61
                have h68 : sumI (g 4) k 10 = w := h68
                have q4 := bI_0 h77
                have c : candB g nN nT M U k b w = false := by simp [candB, q1, q2, h61, h68, q4]
                exact ih _ _ _ _ _ _ rfl rfl (by omega) hb (by rw [hinv, grL, if_neg (by omega), if_neg (nb c)])
              · skip
                refine V_iconst (v := 1) dX7_greatest_80 (by decide) ?_
                refine V_goto 85 dX7_greatest_81 (by decide) ?_
                refine V_istore dX7_greatest_85 (by decide) ?_
                refine V_iload dX7_greatest_87 rfl ?_
                refine V_if_eq 108 dX7_greatest_89 (by decide) (fun h89 => absurd h89 (by decide)) (fun h89 => ?_)
                refine V_aload_n dX7_greatest_92 rfl ?_
                refine V_iload dX7_greatest_93 rfl ?_
                refine V_rdV (0) mw_X7_goes mv_X7_151 dX7_greatest_95 (ct_X7_goes hw hN hN30 hT hT12 _) hw.p0 rfl rfl rfl (Nat.le_of_ble_eq_true rfl) (by decide) (by decide) (by decide) (by decide) ?_
                refine V_if_eq 108 dX7_greatest_98 (by decide) (fun h98 => ?_) (fun h98 => ?_)
                · skip
                  refine V_iinc dX7_greatest_108 rfl rfl (by decide) ?_
                  refine V_goto 23 dX7_greatest_111 (by decide) ?_
                  have q1 : dif k M = 0 := nI_inj1024 (dif_lt (by omega)) (by decide) h35
                  have q2 : k &&& U = U := nI_inj1024 (Nat.lt_of_le_of_lt Nat.and_le_left (by omega)) hU (by rw [← nx_and]; exact h43)
                  have h61 : ¬ w < sumI (g 4) k 10 := h61
                  have h68 : sumI (g 4) k 10 = w := h68
                  have q4 := bI_1 h77
                  have q5 := bI_0 h98
                  have c : candB g nN nT M U k b w = false := by simp [candB, q1, q2, h61, h68, q4, q5]
                  exact ih _ _ _ _ _ _ rfl rfl (by omega) hb (by rw [hinv, grL, if_neg (by omega), if_neg (nb c)])
                · skip
                  refine V_iload dX7_greatest_101 rfl ?_
                  refine V_istore_n dX7_greatest_103 (by decide) ?_
                  refine V_iload dX7_greatest_104 rfl ?_
                  refine V_istore dX7_greatest_106 (by decide) ?_
                  refine V_iinc dX7_greatest_108 rfl rfl (by decide) ?_
                  refine V_goto 23 dX7_greatest_111 (by decide) ?_
                  have q1 : dif k M = 0 := nI_inj1024 (dif_lt (by omega)) (by decide) h35
                  have q2 : k &&& U = U := nI_inj1024 (Nat.lt_of_le_of_lt Nat.and_le_left (by omega)) hU (by rw [← nx_and]; exact h43)
                  have h61 : ¬ w < sumI (g 4) k 10 := h61
                  have h68 : sumI (g 4) k 10 = w := h68
                  have q4 := bI_1 h77
                  have q5 := bI_1 h98
                  have c : candB g nN nT M U k b w = true := by simp [candB, q1, q2, h61, h68, q4, q5]
                  exact ih (some k) _ _ _ _ _ rfl rfl (by omega) (fun s h => by cases h; omega) (by rw [hinv, grL, if_neg (by omega), if_pos c])
set_option maxHeartbeats 4000000 in
set_option maxRecDepth 20000 in
theorem ct_X7_greatest (hw : Wd E ad el g ws) {nN : Nat} (hN : g 8 7 = nI nN) (hN30 : nN ≤ 30) (hok : NOK g nN) {nT : Nat} (hT : g 16 1 = nI nT) (hT12 : nT ≤ 12) {M U : Nat} (hM : M < 1024) (hU : U < 1024) : Ct E yX7_greatest cX7_greatest 8 (some (.int)) 4 0 0 [.ref (ad 0), .int (nI M), .int (nI U)] ws (fun r w => r = some (.int (sI (grt (wTo g nN) nN nT M U))) ∧ WF E ad el (wTo g nN) ws w) := by
  refine Ct_of mw_X7_greatest rfl (Nat.le_of_ble_eq_true rfl) ?_
  have hw := WF.rf hw
  refine V_aload_n dX7_greatest_0 rfl ?_
  refine V_get (0) fl_X7_26 dX7_greatest_1 hw.p0 rfl ?_
  refine V_aload_n dX7_greatest_4 rfl ?_
  refine V_get (0) fl_X7_9 dX7_greatest_5 hw.p0 rfl ?_
  refine V_aload_n dX7_greatest_8 rfl ?_
  refine V_get (0) fl_X7_16 dX7_greatest_9 hw.p0 rfl ?_
  refine V_callV (8) mw_X1_weigh mv_X7_147 dX7_greatest_12 (ct_X1_weigh hw.1 hN hN30 hok) hw.p8 rfl rfl rfl (Nat.le_of_ble_eq_true rfl) (by decide) (by decide) (by decide) (by decide) (fun r12 ws1 hp12 => ?_)
  obtain ⟨rfl, hw1⟩ := hp12
  refine V_iconst (v := -1) dX7_greatest_15 (by decide) ?_
  refine V_istore_n dX7_greatest_16 (by decide) ?_
  refine V_iconst (v := -1) dX7_greatest_17 (by decide) ?_
  refine V_istore dX7_greatest_18 (by decide) ?_
  refine V_iload_n dX7_greatest_20 rfl ?_
  refine V_istore dX7_greatest_21 (by decide) ?_
  exact lp_X7_greatest (g := wTo g nN) hw1 hN hN30 hT hT12 hM hU (M + 1) none (-1) _ _ _ _ rfl (pk_m1 M).symm (by omega) (fun _ h => by cases h) rfl
def dPart (g : Nat → Nat → Int32) (v : Int32) : Int32 × (Nat → Nat → Int32) := if cutB g = true then (-1, g) else if 10 ≤ g 0 9 then (-1, g) else if isVer v = true then (g 0 9 + 1 - 1, va_up (va_up g 1 (upd (g 1) (g 0 9).toNatClampNeg v)) 0 (upd (g 0) 9 (g 0 9 + 1))) else (-1, g)
set_option maxHeartbeats 4000000 in
set_option maxRecDepth 20000 in
theorem ct_X7_part (hw : Wd E ad el g ws) {nP : Nat} (hP : g 0 9 = nI nP) (hP10 : nP ≤ 10) (v : Int32) : Ct E yX7_part cX7_part 2 (some (.int)) 1 0 0 [.ref (ad 0), .int v] ws (fun r w => r = some (.int (dPart g v).1) ∧ WF E ad el (dPart g v).2 ws w) := by
  refine Ct_of mw_X7_part rfl (Nat.le_of_ble_eq_true rfl) ?_
  have hw := WF.rf hw
  refine V_aload_n dX7_part_0 rfl ?_
  refine V_rdV (0) mw_X7_isCutAtHand mv_X7_72 dX7_part_1 (ct_X7_isCutAtHand hw) hw.p0 rfl rfl rfl (Nat.le_of_ble_eq_true rfl) (by decide) (by decide) (by decide) (by decide) ?_
  refine V_if_ne 23 dX7_part_4 (by decide) (fun h4 => ?_) (fun h4 => ?_)
  · skip
    refine V_iconst (v := -1) dX7_part_23 (by decide) ?_
    refine V_iret dX7_part_24 rfl (by decide) (by decide) ?_
    exact fin2 (by rw [dPart, if_pos (bI_1 h4)]) hw
  · skip
    refine V_aload_n dX7_part_7 rfl ?_
    refine V_get (0) fl_X7_65 dX7_part_8 hw.p0 rfl ?_
    refine V_bipush (v := 10) dX7_part_11 (by decide) ?_
    refine V_icmp_ge 23 dX7_part_13 (by decide) (fun h13 => ?_) (fun h13 => ?_)
    · skip
      refine V_iconst (v := -1) dX7_part_23 (by decide) ?_
      refine V_iret dX7_part_24 rfl (by decide) (by decide) ?_
      exact fin2 (by rw [dPart, if_neg (nb (bI_0 h4)), if_pos h13]) hw
    · skip
      refine V_iload_n dX7_part_16 rfl ?_
      refine V_rdS mw_X7_isVersion ms_X7_76 dX7_part_17 (ct_X7_isVersion v) rfl rfl (Nat.le_of_ble_eq_true rfl) (by decide) (by decide) (by decide) (by decide) ?_
      refine V_if_ne 25 dX7_part_20 (by decide) (fun h20 => ?_) (fun h20 => ?_)
      · skip
        refine V_aload_n dX7_part_25 rfl ?_
        refine V_get (0) fl_X7_9 dX7_part_26 hw.p0 rfl ?_
        refine V_aload_n dX7_part_29 rfl ?_
        refine V_get (0) fl_X7_65 dX7_part_30 hw.p0 rfl ?_
        refine V_iload_n dX7_part_33 rfl ?_
        refine W_iast (1) hw (by decide) (fun _ => rfl) dX7_part_34 (by rw [hP] at h13 ⊢; exact vp_in_nI (nleK (a := 10) (b := nP) (by decide) (by omega) h13) (by decide)) (fun ws1 hw1 => ?_)
        refine V_aload_n dX7_part_35 rfl ?_
        refine V_dup dX7_part_36 rfl ?_
        refine V_get (0) fl_X7_65 dX7_part_37 hw1.p0 rfl ?_
        refine V_iconst (v := 1) dX7_part_40 (by decide) ?_
        refine V_iadd dX7_part_41 ?_
        refine W_put (0) hw1 (by decide) fp_X7_65 dX7_part_42 rfl rfl rfl rfl (Nat.le_of_ble_eq_true rfl) (fun ws2 hw2 => ?_)
        refine V_aload_n dX7_part_45 rfl ?_
        refine V_get (0) fl_X7_65 dX7_part_46 hw2.p0 rfl ?_
        refine V_iconst (v := 1) dX7_part_49 (by decide) ?_
        refine V_isub dX7_part_50 ?_
        refine V_iret dX7_part_51 rfl (by decide) (by decide) ?_
        exact fin2 (by rw [dPart, if_neg (nb (bI_0 h4)), if_neg h13, if_pos (bI_1 h20)]; rfl) hw2
      · skip
        refine V_iconst (v := -1) dX7_part_23 (by decide) ?_
        refine V_iret dX7_part_24 rfl (by decide) (by decide) ?_
        exact fin2 (by rw [dPart, if_neg (nb (bI_0 h4)), if_neg h13, if_neg (nb (bI_0 h20))]) hw
def hTC (g : Nat → Nat → Int32) (p : Int32) : Int32 := if chB g p = true then at10 (g 3) p else g 1 p.toNatClampNeg
abbrev opn (g : Nat → Nat → Int32) : Nat := if cutB g = true then 5 else 2
theorem opn_or (g : Nat → Nat → Int32) : opn g = 2 ∨ opn g = 5 := by
  unfold opn
  split
  · exact Or.inr rfl
  · exact Or.inl rfl
def dOffer (g : Nat → Nat → Int32) (p v u : Int32) : Int32 × (Nat → Nat → Int32) := if isPt g p = true then if isVer v = true then if isWor u = true then if v = hTC g p then (0, g) else (1, put10 g (opn g) p v u) else (0, g) else (0, g) else (0, g)
def dWithdraw (g : Nat → Nat → Int32) (p : Int32) : Int32 × (Nat → Nat → Int32) := if isPt g p = true then if at10 (g (opn g + 1)) p = -1 then (0, g) else (1, put10 g (opn g) p (-1) (-1)) else (0, g)
set_option maxHeartbeats 4000000 in
set_option maxRecDepth 20000 in
theorem ct_X7_offer (hw : Wd E ad el g ws) {nP : Nat} (hP : g 0 9 = nI nP) (hP10 : nP ≤ 10) (p v u : Int32) : Ct E yX7_offer cX7_offer 4 (some (.boolean)) 3 0 0 [.ref (ad 0), .int p, .int v, .int u] ws (fun r w => r = some (.int (dOffer g p v u).1) ∧ WF E ad el (dOffer g p v u).2 ws w) := by
  refine Ct_of mw_X7_offer rfl (Nat.le_of_ble_eq_true rfl) ?_
  have hw := WF.rf hw
  refine V_aload_n dX7_offer_0 rfl ?_
  refine V_iload_n dX7_offer_1 rfl ?_
  refine V_rdV (0) mw_X7_isPart mv_X7_80 dX7_offer_2 (ct_X7_isPart hw p) hw.p0 rfl rfl rfl (Nat.le_of_ble_eq_true rfl) (by decide) (by decide) (by decide) (by decide) ?_
  refine V_if_eq 31 dX7_offer_5 (by decide) (fun h5 => ?_) (fun h5 => ?_)
  · skip
    refine V_iconst (v := 0) dX7_offer_31 (by decide) ?_
    refine V_zret dX7_offer_32 rfl (by first | exact Or.inl rfl | exact Or.inr rfl) (by decide) (by decide) ?_
    exact fin2 (by rw [dOffer, if_neg (nb (bI_0 h5))]) hw
  · skip
    refine V_iload_n dX7_offer_8 rfl ?_
    refine V_rdS mw_X7_isVersion ms_X7_76 dX7_offer_9 (ct_X7_isVersion v) rfl rfl (Nat.le_of_ble_eq_true rfl) (by decide) (by decide) (by decide) (by decide) ?_
    refine V_if_eq 31 dX7_offer_12 (by decide) (fun h12 => ?_) (fun h12 => ?_)
    · skip
      refine V_iconst (v := 0) dX7_offer_31 (by decide) ?_
      refine V_zret dX7_offer_32 rfl (by first | exact Or.inl rfl | exact Or.inr rfl) (by decide) (by decide) ?_
      exact fin2 (by rw [dOffer, if_pos (bI_1 h5), if_neg (nb (bI_0 h12))]) hw
    · skip
      refine V_iload_n dX7_offer_15 rfl ?_
      refine V_rdS mw_X7_isWorth ms_X7_83 dX7_offer_16 (ct_X7_isWorth u) rfl rfl (Nat.le_of_ble_eq_true rfl) (by decide) (by decide) (by decide) (by decide) ?_
      refine V_if_eq 31 dX7_offer_19 (by decide) (fun h19 => ?_) (fun h19 => ?_)
      · skip
        refine V_iconst (v := 0) dX7_offer_31 (by decide) ?_
        refine V_zret dX7_offer_32 rfl (by first | exact Or.inl rfl | exact Or.inr rfl) (by decide) (by decide) ?_
        exact fin2 (by rw [dOffer, if_pos (bI_1 h5), if_pos (bI_1 h12), if_neg (nb (bI_0 h19))]) hw
      · skip
        refine V_iload_n dX7_offer_22 rfl ?_
        refine V_aload_n dX7_offer_23 rfl ?_
        refine V_iload_n dX7_offer_24 rfl ?_
        refine V_rdV (0) mw_X7_homeToCome mv_X7_86 dX7_offer_25 (ct_X7_homeToCome hw (p := p) (by obtain ⟨j, hj, rfl⟩ := isPt_in hP hP10 (bI_1 h5); exact vp_in_nI (by omega) (by decide))) hw.p0 rfl rfl rfl (Nat.le_of_ble_eq_true rfl) (by decide) (by decide) (by decide) (by decide) ?_
        refine V_icmp_ne 33 dX7_offer_28 (by decide) (fun h28 => ?_) (fun h28 => ?_)
        · skip
          refine V_aload_n dX7_offer_33 rfl ?_
          refine V_callV (0) mw_X7_openOffers mv_X7_90 dX7_offer_34 (ct_X7_openOffers hw) hw.p0 rfl rfl rfl (Nat.le_of_ble_eq_true rfl) (by decide) (by decide) (by decide) (by decide) (fun r34 ws1 hp34 => ?_)
          obtain ⟨rfl, rfl⟩ := hp34
          have hw1 := hw
          refine V_iload_n dX7_offer_37 rfl ?_
          refine V_iload_n dX7_offer_38 rfl ?_
          refine V_iload_n dX7_offer_39 rfl ?_
          refine V_callV (opn g) mw_X2_put mv_X7_94 dX7_offer_40 (ct_X2_put hw1.1 (opn_or g) p v u) (hw1.o0 (opn_or g)) rfl rfl rfl (Nat.le_of_ble_eq_true rfl) (by decide) (by decide) (by decide) (by decide) (fun r40 ws2 hp40 => ?_)
          obtain ⟨rfl, hw2⟩ := hp40
          have hw2 := hw1.trans hw2
          refine V_iconst (v := 1) dX7_offer_43 (by decide) ?_
          refine V_zret dX7_offer_44 rfl (by first | exact Or.inl rfl | exact Or.inr rfl) (by decide) (by decide) ?_
          exact fin2 (by rw [dOffer, if_pos (bI_1 h5), if_pos (bI_1 h12), if_pos (bI_1 h19), if_neg (by rw [hTC]; exact h28)]) hw2
        · skip
          refine V_iconst (v := 0) dX7_offer_31 (by decide) ?_
          refine V_zret dX7_offer_32 rfl (by first | exact Or.inl rfl | exact Or.inr rfl) (by decide) (by decide) ?_
          exact fin2 (by rw [dOffer, if_pos (bI_1 h5), if_pos (bI_1 h12), if_pos (bI_1 h19), if_pos (by rw [hTC]; exact h28)]) hw
set_option maxHeartbeats 4000000 in
set_option maxRecDepth 20000 in
theorem ct_X7_withdraw (hw : Wd E ad el g ws) (p : Int32) : Ct E yX7_withdraw cX7_withdraw 2 (some (.boolean)) 2 0 0 [.ref (ad 0), .int p] ws (fun r w => r = some (.int (dWithdraw g p).1) ∧ WF E ad el (dWithdraw g p).2 ws w) := by
  refine Ct_of mw_X7_withdraw rfl (Nat.le_of_ble_eq_true rfl) ?_
  have hw := WF.rf hw
  refine V_aload_n dX7_withdraw_0 rfl ?_
  refine V_iload_n dX7_withdraw_1 rfl ?_
  refine V_rdV (0) mw_X7_isPart mv_X7_80 dX7_withdraw_2 (ct_X7_isPart hw p) hw.p0 rfl rfl rfl (Nat.le_of_ble_eq_true rfl) (by decide) (by decide) (by decide) (by decide) ?_
  refine V_if_eq 19 dX7_withdraw_5 (by decide) (fun h5 => ?_) (fun h5 => ?_)
  · skip
    refine V_iconst (v := 0) dX7_withdraw_19 (by decide) ?_
    refine V_zret dX7_withdraw_20 rfl (by first | exact Or.inl rfl | exact Or.inr rfl) (by decide) (by decide) ?_
    exact fin2 (by rw [dWithdraw, if_neg (nb (bI_0 h5))]) hw
  · skip
    refine V_aload_n dX7_withdraw_8 rfl ?_
    refine V_callV (0) mw_X7_openOffers mv_X7_90 dX7_withdraw_9 (ct_X7_openOffers hw) hw.p0 rfl rfl rfl (Nat.le_of_ble_eq_true rfl) (by decide) (by decide) (by decide) (by decide) (fun r9 ws1 hp9 => ?_)
    obtain ⟨rfl, rfl⟩ := hp9
    have hw1 := hw
    refine V_iload_n dX7_withdraw_12 rfl ?_
    refine V_rdV (opn g) mw_X2_has mv_X7_98 dX7_withdraw_13 (ct_X2_has hw1 (opn_or g) p) (hw1.o0 (opn_or g)) rfl rfl rfl (Nat.le_of_ble_eq_true rfl) (by decide) (by decide) (by decide) (by decide) ?_
    refine V_if_ne 21 dX7_withdraw_16 (by decide) (fun h16 => ?_) (fun h16 => ?_)
    · skip
      refine V_aload_n dX7_withdraw_21 rfl ?_
      refine V_callV (0) mw_X7_openOffers mv_X7_90 dX7_withdraw_22 (ct_X7_openOffers hw1) hw1.p0 rfl rfl rfl (Nat.le_of_ble_eq_true rfl) (by decide) (by decide) (by decide) (by decide) (fun r22 ws2 hp22 => ?_)
      obtain ⟨rfl, rfl⟩ := hp22
      have hw2 := hw1
      refine V_iload_n dX7_withdraw_25 rfl ?_
      refine V_callV (opn g) mw_X2_drop mv_X7_101 dX7_withdraw_26 (ct_X2_drop hw2.1 (opn_or g) p) (hw2.o0 (opn_or g)) rfl rfl rfl (Nat.le_of_ble_eq_true rfl) (by decide) (by decide) (by decide) (by decide) (fun r26 ws3 hp26 => ?_)
      obtain ⟨rfl, hw3⟩ := hp26
      have hw3 := hw2.trans hw3
      refine V_iconst (v := 1) dX7_withdraw_29 (by decide) ?_
      refine V_zret dX7_withdraw_30 rfl (by first | exact Or.inl rfl | exact Or.inr rfl) (by decide) (by decide) ?_
      have c : ¬ at10 (g (opn g + 1)) p = -1 := fun c => h16 (if_pos c)
      exact fin2 (by rw [dWithdraw, if_pos (bI_1 h5), if_neg c]) hw3
    · skip
      refine V_iconst (v := 0) dX7_withdraw_19 (by decide) ?_
      refine V_zret dX7_withdraw_20 rfl (by first | exact Or.inl rfl | exact Or.inr rfl) (by decide) (by decide) ?_
      have c : at10 (g (opn g + 1)) p = -1 := by
        by_cases c : at10 (g (opn g + 1)) p = -1
        · exact c
        · rw [if_neg c] at h16; exact absurd h16 (by decide)
      exact fin2 (by rw [dWithdraw, if_pos (bI_1 h5), if_pos c]) hw1
def dNeed (g : Nat → Nat → Int32) (p v o lo hi : Int32) : Int32 × (Nat → Nat → Int32) := if cutB g = true then (-1, g) else if isPt g p = true then if isPt g o = true then if p = o then (-1, g) else if isVer v = true then if isVer lo = true then if isVer hi = true then if lo ≤ hi then (if g 8 7 < 30 then g 8 7 + 1 - 1 else -1, if g 8 7 < 30 then addNeed g p v o lo hi else g) else (-1, g) else (-1, g) else (-1, g) else (-1, g) else (-1, g) else (-1, g)
def dTest (g : Nat → Nat → Int32) (set : Int32) : Int32 × (Nat → Nat → Int32) := if cutB g = true then (-1, g) else if set = 0 then (-1, g) else if areP g set = true then (if g 16 1 < 12 then g 16 1 + 1 - 1 else -1, if g 16 1 < 12 then addTest g set else g) else (-1, g)
set_option maxHeartbeats 4000000 in
set_option maxRecDepth 20000 in
theorem ct_X7_need (hw : Wd E ad el g ws) {nN : Nat} (hN : g 8 7 = nI nN) (hN30 : nN ≤ 30) (p v o lo hi : Int32) : Ct E yX7_need cX7_need 6 (some (.int)) 1 0 0 [.ref (ad 0), .int p, .int v, .int o, .int lo, .int hi] ws (fun r w => r = some (.int (dNeed g p v o lo hi).1) ∧ WF E ad el (dNeed g p v o lo hi).2 ws w) := by
  refine Ct_of mw_X7_need rfl (Nat.le_of_ble_eq_true rfl) ?_
  have hw := WF.rf hw
  have hin : g 8 7 < 30 → vp_in (g 8 7) 30 := fun h => by rw [hN] at h ⊢; exact vp_in_nI (ltK (a := nN) (b := 30) (by omega) (by decide) h) (by decide)
  refine V_aload_n dX7_need_0 rfl ?_
  refine V_rdV (0) mw_X7_isCutAtHand mv_X7_72 dX7_need_1 (ct_X7_isCutAtHand hw) hw.p0 rfl rfl rfl (Nat.le_of_ble_eq_true rfl) (by decide) (by decide) (by decide) (by decide) ?_
  refine V_if_ne 28 dX7_need_4 (by decide) (fun h4 => ?_) (fun h4 => ?_)
  · skip
    refine V_iconst (v := -1) dX7_need_28 (by decide) ?_
    refine V_iret dX7_need_29 rfl (by decide) (by decide) ?_
    exact fin2 (by rw [dNeed, if_pos (bI_1 h4)]) hw
  · skip
    refine V_aload_n dX7_need_7 rfl ?_
    refine V_iload_n dX7_need_8 rfl ?_
    refine V_rdV (0) mw_X7_isPart mv_X7_80 dX7_need_9 (ct_X7_isPart hw p) hw.p0 rfl rfl rfl (Nat.le_of_ble_eq_true rfl) (by decide) (by decide) (by decide) (by decide) ?_
    refine V_if_eq 28 dX7_need_12 (by decide) (fun h12 => ?_) (fun h12 => ?_)
    · skip
      refine V_iconst (v := -1) dX7_need_28 (by decide) ?_
      refine V_iret dX7_need_29 rfl (by decide) (by decide) ?_
      exact fin2 (by rw [dNeed, if_neg (nb (bI_0 h4)), if_neg (nb (bI_0 h12))]) hw
    · skip
      refine V_aload_n dX7_need_15 rfl ?_
      refine V_iload_n dX7_need_16 rfl ?_
      refine V_rdV (0) mw_X7_isPart mv_X7_80 dX7_need_17 (ct_X7_isPart hw o) hw.p0 rfl rfl rfl (Nat.le_of_ble_eq_true rfl) (by decide) (by decide) (by decide) (by decide) ?_
      refine V_if_eq 28 dX7_need_20 (by decide) (fun h20 => ?_) (fun h20 => ?_)
      · skip
        refine V_iconst (v := -1) dX7_need_28 (by decide) ?_
        refine V_iret dX7_need_29 rfl (by decide) (by decide) ?_
        exact fin2 (by rw [dNeed, if_neg (nb (bI_0 h4)), if_pos (bI_1 h12), if_neg (nb (bI_0 h20))]) hw
      · skip
        refine V_iload_n dX7_need_23 rfl ?_
        refine V_iload_n dX7_need_24 rfl ?_
        refine V_icmp_ne 30 dX7_need_25 (by decide) (fun h25 => ?_) (fun h25 => ?_)
        · skip
          refine V_iload_n dX7_need_30 rfl ?_
          refine V_rdS mw_X7_isVersion ms_X7_76 dX7_need_31 (ct_X7_isVersion v) rfl rfl (Nat.le_of_ble_eq_true rfl) (by decide) (by decide) (by decide) (by decide) ?_
          refine V_if_eq 60 dX7_need_34 (by decide) (fun h34 => ?_) (fun h34 => ?_)
          · skip
            refine V_iconst (v := -1) dX7_need_60 (by decide) ?_
            refine V_iret dX7_need_61 rfl (by decide) (by decide) ?_
            exact fin2 (by rw [dNeed, if_neg (nb (bI_0 h4)), if_pos (bI_1 h12), if_pos (bI_1 h20), if_neg h25, if_neg (nb (bI_0 h34))]) hw
          · skip
            refine V_iload dX7_need_37 rfl ?_
            refine V_rdS mw_X7_isVersion ms_X7_76 dX7_need_39 (ct_X7_isVersion lo) rfl rfl (Nat.le_of_ble_eq_true rfl) (by decide) (by decide) (by decide) (by decide) ?_
            refine V_if_eq 60 dX7_need_42 (by decide) (fun h42 => ?_) (fun h42 => ?_)
            · skip
              refine V_iconst (v := -1) dX7_need_60 (by decide) ?_
              refine V_iret dX7_need_61 rfl (by decide) (by decide) ?_
              exact fin2 (by rw [dNeed, if_neg (nb (bI_0 h4)), if_pos (bI_1 h12), if_pos (bI_1 h20), if_neg h25, if_pos (bI_1 h34), if_neg (nb (bI_0 h42))]) hw
            · skip
              refine V_iload dX7_need_45 rfl ?_
              refine V_rdS mw_X7_isVersion ms_X7_76 dX7_need_47 (ct_X7_isVersion hi) rfl rfl (Nat.le_of_ble_eq_true rfl) (by decide) (by decide) (by decide) (by decide) ?_
              refine V_if_eq 60 dX7_need_50 (by decide) (fun h50 => ?_) (fun h50 => ?_)
              · skip
                refine V_iconst (v := -1) dX7_need_60 (by decide) ?_
                refine V_iret dX7_need_61 rfl (by decide) (by decide) ?_
                exact fin2 (by rw [dNeed, if_neg (nb (bI_0 h4)), if_pos (bI_1 h12), if_pos (bI_1 h20), if_neg h25, if_pos (bI_1 h34), if_pos (bI_1 h42), if_neg (nb (bI_0 h50))]) hw
              · skip
                refine V_iload dX7_need_53 rfl ?_
                refine V_iload dX7_need_55 rfl ?_
                refine V_icmp_le 62 dX7_need_57 (by decide) (fun h57 => ?_) (fun h57 => ?_)
                · skip
                  refine V_aload_n dX7_need_62 rfl ?_
                  refine V_get (0) fl_X7_26 dX7_need_63 hw.p0 rfl ?_
                  refine V_iload_n dX7_need_66 rfl ?_
                  refine V_iload_n dX7_need_67 rfl ?_
                  refine V_iload_n dX7_need_68 rfl ?_
                  refine V_iload dX7_need_69 rfl ?_
                  refine V_iload dX7_need_71 rfl ?_
                  refine V_callV (8) mw_X1_add mv_X7_105 dX7_need_73 (ct_X1_add hw.1 hin p v o lo hi) hw.p8 rfl rfl rfl (Nat.le_of_ble_eq_true rfl) (by decide) (by decide) (by decide) (by decide) (fun r73 ws1 hp73 => ?_)
                  obtain ⟨rfl, hw1⟩ := hp73
                  have hw1 := hw.trans hw1
                  refine V_iret dX7_need_76 rfl (by decide) (by decide) ?_
                  exact fin2 (by rw [dNeed, if_neg (nb (bI_0 h4)), if_pos (bI_1 h12), if_pos (bI_1 h20), if_neg h25, if_pos (bI_1 h34), if_pos (bI_1 h42), if_pos (bI_1 h50), if_pos h57]) hw1
                · skip
                  refine V_iconst (v := -1) dX7_need_60 (by decide) ?_
                  refine V_iret dX7_need_61 rfl (by decide) (by decide) ?_
                  exact fin2 (by rw [dNeed, if_neg (nb (bI_0 h4)), if_pos (bI_1 h12), if_pos (bI_1 h20), if_neg h25, if_pos (bI_1 h34), if_pos (bI_1 h42), if_pos (bI_1 h50), if_neg h57]) hw
        · skip
          refine V_iconst (v := -1) dX7_need_28 (by decide) ?_
          refine V_iret dX7_need_29 rfl (by decide) (by decide) ?_
          exact fin2 (by rw [dNeed, if_neg (nb (bI_0 h4)), if_pos (bI_1 h12), if_pos (bI_1 h20), if_pos h25]) hw
set_option maxHeartbeats 4000000 in
set_option maxRecDepth 20000 in
theorem ct_X7_test (hw : Wd E ad el g ws) {nT : Nat} (hT : g 16 1 = nI nT) (hT12 : nT ≤ 12) (set : Int32) : Ct E yX7_test cX7_test 2 (some (.int)) 1 0 0 [.ref (ad 0), .int set] ws (fun r w => r = some (.int (dTest g set).1) ∧ WF E ad el (dTest g set).2 ws w) := by
  refine Ct_of mw_X7_test rfl (Nat.le_of_ble_eq_true rfl) ?_
  have hw := WF.rf hw
  have hin : g 16 1 < 12 → vp_in (g 16 1) 12 := fun h => by rw [hT] at h ⊢; exact vp_in_nI (ltK (a := nT) (b := 12) (by omega) (by decide) h) (by decide)
  refine V_aload_n dX7_test_0 rfl ?_
  refine V_rdV (0) mw_X7_isCutAtHand mv_X7_72 dX7_test_1 (ct_X7_isCutAtHand hw) hw.p0 rfl rfl rfl (Nat.le_of_ble_eq_true rfl) (by decide) (by decide) (by decide) (by decide) ?_
  refine V_if_ne 19 dX7_test_4 (by decide) (fun h4 => ?_) (fun h4 => ?_)
  · skip
    refine V_iconst (v := -1) dX7_test_19 (by decide) ?_
    refine V_iret dX7_test_20 rfl (by decide) (by decide) ?_
    exact fin2 (by rw [dTest, if_pos (bI_1 h4)]) hw
  · skip
    refine V_iload_n dX7_test_7 rfl ?_
    refine V_if_eq 19 dX7_test_8 (by decide) (fun h8 => ?_) (fun h8 => ?_)
    · skip
      refine V_iconst (v := -1) dX7_test_19 (by decide) ?_
      refine V_iret dX7_test_20 rfl (by decide) (by decide) ?_
      exact fin2 (by rw [dTest, if_neg (nb (bI_0 h4)), if_pos h8]) hw
    · skip
      refine V_aload_n dX7_test_11 rfl ?_
      refine V_iload_n dX7_test_12 rfl ?_
      refine V_rdV (0) mw_X7_areParts mv_X7_109 dX7_test_13 (ct_X7_areParts hw set) hw.p0 rfl rfl rfl (Nat.le_of_ble_eq_true rfl) (by decide) (by decide) (by decide) (by decide) ?_
      refine V_if_ne 21 dX7_test_16 (by decide) (fun h16 => ?_) (fun h16 => ?_)
      · skip
        refine V_aload_n dX7_test_21 rfl ?_
        refine V_get (0) fl_X7_33 dX7_test_22 hw.p0 rfl ?_
        refine V_iload_n dX7_test_25 rfl ?_
        refine V_callV (16) mw_X5_add mv_X7_112 dX7_test_26 (ct_X5_add hw.1 hin set) hw.p16 rfl rfl rfl (Nat.le_of_ble_eq_true rfl) (by decide) (by decide) (by decide) (by decide) (fun r26 ws1 hp26 => ?_)
        obtain ⟨rfl, hw1⟩ := hp26
        have hw1 := hw.trans hw1
        refine V_iret dX7_test_29 rfl (by decide) (by decide) ?_
        exact fin2 (by rw [dTest, if_neg (nb (bI_0 h4)), if_neg h8, if_pos (bI_1 h16)]) hw1
      · skip
        refine V_iconst (v := -1) dX7_test_19 (by decide) ?_
        refine V_iret dX7_test_20 rfl (by decide) (by decide) ?_
        exact fin2 (by rw [dTest, if_neg (nb (bI_0 h4)), if_neg h8, if_neg (nb (bI_0 h16))]) hw
def dFits (g : Nat → Nat → Int32) (nN : Nat) (set : Int32) : Int32 × (Nat → Nat → Int32) := if set &&& (nI (maskN (g 3) 10) ^^^ -1) = 0 then (if brkD (wTo g nN) nN set = -1 then 1 else 0, wTo g nN) else (-1, g)
def dRed (g : Nat → Nat → Int32) (nT : Nat) (set : Int32) : Int32 := if areP g set = true then fi (pRed (g 17) set) nT 0 else -1
set_option maxHeartbeats 4000000 in
set_option maxRecDepth 20000 in
theorem ct_X7_fits (hw : Wd E ad el g ws) {nN : Nat} (hN : g 8 7 = nI nN) (hN30 : nN ≤ 30) (hok : NOK g nN) (set : Int32) : Ct E yX7_fits cX7_fits 2 (some (.int)) 5 0 0 [.ref (ad 0), .int set] ws (fun r w => r = some (.int (dFits g nN set).1) ∧ WF E ad el (dFits g nN set).2 ws w) := by
  refine Ct_of mw_X7_fits rfl (Nat.le_of_ble_eq_true rfl) ?_
  have hw := WF.rf hw
  refine V_iload_n dX7_fits_0 rfl ?_
  refine V_aload_n dX7_fits_1 rfl ?_
  refine V_get (0) fl_X7_16 dX7_fits_2 hw.p0 rfl ?_
  refine V_rdV (2) mw_X2_mask mv_X7_114 dX7_fits_5 (ct_X2_mask hw (Or.inl rfl)) hw.p2 rfl rfl rfl (Nat.le_of_ble_eq_true rfl) (by decide) (by decide) (by decide) (by decide) ?_
  refine V_iconst (v := -1) dX7_fits_8 (by decide) ?_
  refine V_ixor dX7_fits_9 ?_
  refine V_iand dX7_fits_10 ?_
  refine V_if_eq 16 dX7_fits_11 (by decide) (fun h11 => ?_) (fun h11 => ?_)
  · skip
    refine V_aload_n dX7_fits_16 rfl ?_
    refine V_iload_n dX7_fits_17 rfl ?_
    refine V_callV (0) mw_X7_firstBroken mv_X7_118 dX7_fits_18 (ct_X7_firstBroken hw.1 hN hN30 hok set) hw.p0 rfl rfl rfl (Nat.le_of_ble_eq_true rfl) (by decide) (by decide) (by decide) (by decide) (fun r18 ws1 hp18 => ?_)
    obtain ⟨rfl, hw1⟩ := hp18
    have hw1 := hw.trans hw1
    refine V_iconst (v := -1) dX7_fits_21 (by decide) ?_
    refine V_icmp_ne 29 dX7_fits_22 (by decide) (fun h22 => ?_) (fun h22 => ?_)
    · skip
      refine V_iconst (v := 0) dX7_fits_29 (by decide) ?_
      refine V_iret dX7_fits_30 rfl (by decide) (by decide) ?_
      exact fin2 (by rw [dFits, if_pos (show set &&& (nI (maskN (g 3) 10) ^^^ -1) = 0 from h11), if_neg h22]) hw1
    · skip
      refine V_iconst (v := 1) dX7_fits_25 (by decide) ?_
      refine V_goto 30 dX7_fits_26 (by decide) ?_
      refine V_iret dX7_fits_30 rfl (by decide) (by decide) ?_
      exact fin2 (by rw [dFits, if_pos (show set &&& (nI (maskN (g 3) 10) ^^^ -1) = 0 from h11), if_pos h22]) hw1
  · skip
    refine V_iconst (v := -1) dX7_fits_14 (by decide) ?_
    refine V_iret dX7_fits_15 rfl (by decide) (by decide) ?_
    exact fin2 (by rw [dFits, if_neg (show ¬ set &&& (nI (maskN (g 3) 10) ^^^ -1) = 0 from h11)]) hw
set_option maxHeartbeats 4000000 in
set_option maxRecDepth 20000 in
theorem ct_X7_red (hw : WF E ad el g w0 ws) {nT : Nat} (hT : g 16 1 = nI nT) (hT12 : nT ≤ 12) (set : Int32) : Ct E yX7_red cX7_red 2 (some (.int)) 1 0 0 [.ref (ad 0), .int set] ws (fun r w => r = some (.int (dRed g nT set)) ∧ w = ws) := by
  refine Ct_of mw_X7_red rfl (Nat.le_of_ble_eq_true rfl) ?_
  refine V_aload_n dX7_red_0 rfl ?_
  refine V_iload_n dX7_red_1 rfl ?_
  refine V_rdV (0) mw_X7_areParts mv_X7_109 dX7_red_2 (ct_X7_areParts hw set) hw.p0 rfl rfl rfl (Nat.le_of_ble_eq_true rfl) (by decide) (by decide) (by decide) (by decide) ?_
  refine V_if_eq 19 dX7_red_5 (by decide) (fun h5 => ?_) (fun h5 => ?_)
  · skip
    refine V_iconst (v := -1) dX7_red_19 (by decide) ?_
    refine V_iret dX7_red_20 rfl (by decide) (by decide) ?_
    exact fin1 (by rw [dRed, if_neg (nb (bI_0 h5))])
  · skip
    refine V_aload_n dX7_red_8 rfl ?_
    refine V_get (0) fl_X7_33 dX7_red_9 hw.p0 rfl ?_
    refine V_iload_n dX7_red_12 rfl ?_
    refine V_rdV (16) mw_X5_firstRed mv_X7_121 dX7_red_13 (ct_X5_firstRed hw set hT hT12) hw.p16 rfl rfl rfl (Nat.le_of_ble_eq_true rfl) (by decide) (by decide) (by decide) (by decide) ?_
    refine V_goto 20 dX7_red_16 (by decide) ?_
    refine V_iret dX7_red_20 rfl (by decide) (by decide) ?_
    exact fin1 (by rw [dRed, if_pos (bI_1 h5)])
def dCut (g : Nat → Nat → Int32) (nN nT : Nat) : Int32 × (Nat → Nat → Int32) := if cutB g = true then (-1, g) else if sI (grt (wTo g nN) nN nT (maskN (g 3) 10) 0) = -1 then (sI (grt (wTo g nN) nN nT (maskN (g 3) 10) 0), wTo g nN) else (sI (grt (wTo g nN) nN nT (maskN (g 3) 10) 0), chooseG (wTo g nN) nN (sI (grt (wTo g nN) nN nT (maskN (g 3) 10) 0)).toNatClampNeg)
set_option maxHeartbeats 4000000 in
set_option maxRecDepth 20000 in
theorem ct_X7_cut (hw : Wd E ad el g ws) {nN : Nat} (hN : g 8 7 = nI nN) (hN30 : nN ≤ 30) (hok : NOK g nN) {nT : Nat} (hT : g 16 1 = nI nT) (hT12 : nT ≤ 12) : Ct E yX7_cut cX7_cut 2 (some (.int)) 5 0 0 [.ref (ad 0)] ws (fun r w => r = some (.int (dCut g nN nT).1) ∧ WF E ad el (dCut g nN nT).2 ws w) := by
  refine Ct_of mw_X7_cut rfl (Nat.le_of_ble_eq_true rfl) ?_
  have hw := WF.rf hw
  refine V_aload_n dX7_cut_0 rfl ?_
  refine V_rdV (0) mw_X7_isCutAtHand mv_X7_72 dX7_cut_1 (ct_X7_isCutAtHand hw) hw.p0 rfl rfl rfl (Nat.le_of_ble_eq_true rfl) (by decide) (by decide) (by decide) (by decide) ?_
  refine V_if_eq 9 dX7_cut_4 (by decide) (fun h4 => ?_) (fun h4 => ?_)
  · skip
    refine V_aload_n dX7_cut_9 rfl ?_
    refine V_aload_n dX7_cut_10 rfl ?_
    refine V_get (0) fl_X7_16 dX7_cut_11 hw.p0 rfl ?_
    refine V_rdV (2) mw_X2_mask mv_X7_114 dX7_cut_14 (ct_X2_mask hw (Or.inl rfl)) hw.p2 rfl rfl rfl (Nat.le_of_ble_eq_true rfl) (by decide) (by decide) (by decide) (by decide) ?_
    refine V_iconst (v := 0) dX7_cut_17 (by decide) ?_
    refine V_callV (0) mw_X7_greatest mv_X7_124 dX7_cut_18 (ct_X7_greatest hw.1 hN hN30 hok hT hT12 (maskN_lt (g 3) 10) (U := 0) (by decide)) hw.p0 rfl rfl rfl (Nat.le_of_ble_eq_true rfl) (by decide) (by decide) (by decide) (by decide) (fun r18 ws1 hp18 => ?_)
    obtain ⟨rfl, hw1⟩ := hp18
    have hw1 := hw.trans hw1
    refine V_istore_n dX7_cut_21 (by decide) ?_
    refine V_iload_n dX7_cut_22 rfl ?_
    refine V_iconst (v := -1) dX7_cut_23 (by decide) ?_
    refine V_icmp_eq 32 dX7_cut_24 (by decide) (fun h24 => ?_) (fun h24 => ?_)
    · skip
      refine V_iload_n dX7_cut_32 rfl ?_
      refine V_iret dX7_cut_33 rfl (by decide) (by decide) ?_
      exact fin2 (by rw [dCut, if_neg (nb (bI_0 h4)), if_pos h24]) hw1
    · skip
      have hch : ∀ {w : va_W}, Wd E ad el (wTo g nN) w → Ct E yX7_choose cX7_choose 2 none 4 0 0 [.ref (ad 0), .int (sI (grt (wTo g nN) nN nT (maskN (g 3) 10) 0))] w (fun r w9 => r = none ∧ WF E ad el (chooseG (wTo g nN) nN (sI (grt (wTo g nN) nN nT (maskN (g 3) 10) 0)).toNatClampNeg) w w9) := by
        intro w hw
        cases hg : grt (wTo g nN) nN nT (maskN (g 3) 10) 0 with
        | none => rw [hg] at h24; exact absurd rfl h24
        | some S =>
          have hS : S < 1024 := grL_lt _ none (-1) (by have := maskN_lt (g 3) 10; omega) (fun _ h => by cases h) S hg
          show Ct E yX7_choose cX7_choose 2 none 4 0 0 [.ref (ad 0), .int (nI S)] w (fun r w9 => r = none ∧ WF E ad el (chooseG (wTo g nN) nN (nI S).toNatClampNeg) w w9)
          rw [nI_clamp (by omega)]
          exact ct_X7_choose hw hN hN30 (hok.to rfl rfl) hS
      refine V_aload_n dX7_cut_27 rfl ?_
      refine V_iload_n dX7_cut_28 rfl ?_
      refine V_callV (0) mw_X7_choose mv_X7_128 dX7_cut_29 ((show Ct E yX7_choose cX7_choose 2 none 4 0 0 [.ref (ad 0), .int (sI (grt (wTo g nN) nN nT (maskN (g 3) 10) 0))] ws1 (fun r w => r = none ∧ WF E ad el (chooseG (wTo g nN) nN (sI (grt (wTo g nN) nN nT (maskN (g 3) 10) 0)).toNatClampNeg) ws1 w) from hch hw1.1)) hw1.p0 rfl rfl rfl (Nat.le_of_ble_eq_true rfl) (by decide) (by decide) (by decide) (by decide) (fun r29 ws2 hp29 => ?_)
      obtain ⟨rfl, hw2⟩ := hp29
      have hw2 := hw1.trans hw2
      refine V_iload_n dX7_cut_32 rfl ?_
      refine V_iret dX7_cut_33 rfl (by decide) (by decide) ?_
      exact fin2 (by rw [dCut, if_neg (nb (bI_0 h4)), if_neg h24]) hw2
  · skip
    refine V_iconst (v := -1) dX7_cut_7 (by decide) ?_
    refine V_iret dX7_cut_8 rfl (by decide) (by decide) ?_
    exact fin2 (by rw [dCut, if_pos (bI_1 h4)]) hw
set_option maxHeartbeats 4000000 in
set_option maxRecDepth 20000 in
theorem ct_X7_chosen (hw : WF E ad el g w0 ws)  : Ct E yX7_chosen cX7_chosen 1 (some (.int)) 0 0 0 [.ref (ad 0)] ws (fun r w => r = some (.int (g 0 10)) ∧ w = ws) := by
  refine Ct_of mw_X7_chosen rfl (Nat.le_of_ble_eq_true rfl) ?_
  refine V_aload_n dX7_chosen_0 rfl ?_
  refine V_get (0) fl_X7_69 dX7_chosen_1 hw.p0 rfl ?_
  refine V_iret dX7_chosen_4 rfl (by decide) (by decide) ?_
  exact ⟨rfl, rfl⟩
def dWorth (g : Nat → Nat → Int32) : Int32 := if cutB g = true then sumI (g 4) (g 0 10).toNatClampNeg 10 else -1
/-- behind the cut the set chosen is a set -/
def COK (g : Nat → Nat → Int32) : Prop := cutB g = true → ∃ C : Nat, C < 1024 ∧ g 0 10 = nI C
set_option maxHeartbeats 4000000 in
set_option maxRecDepth 20000 in
theorem ct_X7_worth (hw : WF E ad el g w0 ws) (hC : COK g) : Ct E yX7_worth cX7_worth 1 (some (.int)) 1 0 0 [.ref (ad 0)] ws (fun r w => r = some (.int (dWorth g)) ∧ w = ws) := by
  refine Ct_of mw_X7_worth rfl (Nat.le_of_ble_eq_true rfl) ?_
  have hsum : cutB g = true → Ct E yX2_sum cX2_sum 4 (some (.int)) 0 0 0 [.ref (ad 2), .int (g 0 10)] ws (fun r w => r = some (.int (sumI (g 4) (g 0 10).toNatClampNeg 10)) ∧ w = ws) := by
    intro h
    obtain ⟨C, hC1, hC2⟩ := hC h
    rw [hC2, nI_clamp (by omega)]
    exact ct_X2_sum hw (Or.inl rfl) C hC1
  refine V_aload_n dX7_worth_0 rfl ?_
  refine V_rdV (0) mw_X7_isCutAtHand mv_X7_72 dX7_worth_1 (ct_X7_isCutAtHand hw) hw.p0 rfl rfl rfl (Nat.le_of_ble_eq_true rfl) (by decide) (by decide) (by decide) (by decide) ?_
  refine V_if_eq 21 dX7_worth_4 (by decide) (fun h4 => ?_) (fun h4 => ?_)
  · skip
    refine V_iconst (v := -1) dX7_worth_21 (by decide) ?_
    refine V_iret dX7_worth_22 rfl (by decide) (by decide) ?_
    exact fin1 (by rw [dWorth, if_neg (nb (bI_0 h4))])
  · skip
    refine V_aload_n dX7_worth_7 rfl ?_
    refine V_get (0) fl_X7_16 dX7_worth_8 hw.p0 rfl ?_
    refine V_aload_n dX7_worth_11 rfl ?_
    refine V_get (0) fl_X7_69 dX7_worth_12 hw.p0 rfl ?_
    refine V_rdV (2) mw_X2_sum mv_X7_131 dX7_worth_15 (hsum (bI_1 h4)) hw.p2 rfl rfl rfl (Nat.le_of_ble_eq_true rfl) (by decide) (by decide) (by decide) (by decide) ?_
    refine V_goto 22 dX7_worth_18 (by decide) ?_
    refine V_iret dX7_worth_22 rfl (by decide) (by decide) ?_
    exact fin1 (by rw [dWorth, if_pos (bI_1 h4)])
abbrev orI (g : Nat → Nat → Int32) (p : Int32) : Int32 := g 0 10 ||| ((1 : Int32) <<< (p &&& 31))
def dWhy (g : Nat → Nat → Int32) (nN nT : Nat) (p : Int32) : Int32 × (Nat → Nat → Int32) := if cutB g = true then if isPt g p = true then if at10 (g 3) p = -1 then (-1, g) else if chB g p = true then (-1, g) else if brkD (wTo g nN) nN (orI g p) = -1 then (if fi (pRed (g 17) (orI g p)) nT 0 = -1 then 0 else 200 + fi (pRed (g 17) (orI g p)) nT 0, wTo g nN) else (100 + brkD (wTo g nN) nN (orI g p), wTo g nN) else (-1, g) else (-1, g)
set_option maxHeartbeats 4000000 in
set_option maxRecDepth 20000 in
theorem ct_X7_why (hw : Wd E ad el g ws) {nN : Nat} (hN : g 8 7 = nI nN) (hN30 : nN ≤ 30) (hok : NOK g nN) {nT : Nat} (hT : g 16 1 = nI nT) (hT12 : nT ≤ 12) (p : Int32) : Ct E yX7_why cX7_why 5 (some (.int)) 5 0 0 [.ref (ad 0), .int p] ws (fun r w => r = some (.int (dWhy g nN nT p).1) ∧ WF E ad el (dWhy g nN nT p).2 ws w) := by
  refine Ct_of mw_X7_why rfl (Nat.le_of_ble_eq_true rfl) ?_
  have hw := WF.rf hw
  refine V_aload_n dX7_why_0 rfl ?_
  refine V_rdV (0) mw_X7_isCutAtHand mv_X7_72 dX7_why_1 (ct_X7_isCutAtHand hw) hw.p0 rfl rfl rfl (Nat.le_of_ble_eq_true rfl) (by decide) (by decide) (by decide) (by decide) ?_
  refine V_if_eq 34 dX7_why_4 (by decide) (fun h4 => ?_) (fun h4 => ?_)
  · skip
    refine V_iconst (v := -1) dX7_why_34 (by decide) ?_
    refine V_iret dX7_why_35 rfl (by decide) (by decide) ?_
    exact fin2 (by rw [dWhy, if_neg (nb (bI_0 h4))]) hw
  · skip
    refine V_aload_n dX7_why_7 rfl ?_
    refine V_iload_n dX7_why_8 rfl ?_
    refine V_rdV (0) mw_X7_isPart mv_X7_80 dX7_why_9 (ct_X7_isPart hw p) hw.p0 rfl rfl rfl (Nat.le_of_ble_eq_true rfl) (by decide) (by decide) (by decide) (by decide) ?_
    refine V_if_eq 34 dX7_why_12 (by decide) (fun h12 => ?_) (fun h12 => ?_)
    · skip
      refine V_iconst (v := -1) dX7_why_34 (by decide) ?_
      refine V_iret dX7_why_35 rfl (by decide) (by decide) ?_
      exact fin2 (by rw [dWhy, if_pos (bI_1 h4), if_neg (nb (bI_0 h12))]) hw
    · skip
      refine V_aload_n dX7_why_15 rfl ?_
      refine V_get (0) fl_X7_16 dX7_why_16 hw.p0 rfl ?_
      refine V_iload_n dX7_why_19 rfl ?_
      refine V_rdV (2) mw_X2_has mv_X7_98 dX7_why_20 (ct_X2_has hw (Or.inl rfl) p) hw.p2 rfl rfl rfl (Nat.le_of_ble_eq_true rfl) (by decide) (by decide) (by decide) (by decide) ?_
      refine V_if_eq 34 dX7_why_23 (by decide) (fun h23 => ?_) (fun h23 => ?_)
      · skip
        refine V_iconst (v := -1) dX7_why_34 (by decide) ?_
        refine V_iret dX7_why_35 rfl (by decide) (by decide) ?_
        have c : at10 (g 3) p = -1 := by
          by_cases c : at10 (g (2 + 1)) p = -1
          · exact c
          · rw [if_neg c] at h23; exact absurd h23 (by decide)
        exact fin2 (by rw [dWhy, if_pos (bI_1 h4), if_pos (bI_1 h12), if_pos c]) hw
      · skip
        refine V_aload_n dX7_why_26 rfl ?_
        refine V_iload_n dX7_why_27 rfl ?_
        refine V_rdV (0) mw_X7_isChosen mv_X7_134 dX7_why_28 (ct_X7_isChosen hw p) hw.p0 rfl rfl rfl (Nat.le_of_ble_eq_true rfl) (by decide) (by decide) (by decide) (by decide) ?_
        refine V_if_eq 36 dX7_why_31 (by decide) (fun h31 => ?_) (fun h31 => ?_)
        · skip
          refine V_aload_n dX7_why_36 rfl ?_
          refine V_get (0) fl_X7_69 dX7_why_37 hw.p0 rfl ?_
          refine V_iconst (v := 1) dX7_why_40 (by decide) ?_
          refine V_iload_n dX7_why_41 rfl ?_
          refine V_ishl dX7_why_42 ?_
          refine V_ior dX7_why_43 ?_
          refine V_istore_n dX7_why_44 (by decide) ?_
          refine V_aload_n dX7_why_45 rfl ?_
          refine V_iload_n dX7_why_46 rfl ?_
          refine V_callV (0) mw_X7_firstBroken mv_X7_118 dX7_why_47 (ct_X7_firstBroken hw.1 hN hN30 hok _) hw.p0 rfl rfl rfl (Nat.le_of_ble_eq_true rfl) (by decide) (by decide) (by decide) (by decide) (fun r47 ws1 hp47 => ?_)
          obtain ⟨rfl, hw1⟩ := hp47
          have hw1 := hw.trans hw1
          refine V_istore_n dX7_why_50 (by decide) ?_
          refine V_iload_n dX7_why_51 rfl ?_
          refine V_iconst (v := -1) dX7_why_52 (by decide) ?_
          refine V_icmp_eq 61 dX7_why_53 (by decide) (fun h53 => ?_) (fun h53 => ?_)
          · skip
            refine V_aload_n dX7_why_61 rfl ?_
            refine V_get (0) fl_X7_33 dX7_why_62 hw1.p0 rfl ?_
            refine V_iload_n dX7_why_65 rfl ?_
            refine V_rdV (16) mw_X5_firstRed mv_X7_121 dX7_why_66 (ct_X5_firstRed (g := wTo g nN) hw1 _ hT hT12) hw1.p16 rfl rfl rfl (Nat.le_of_ble_eq_true rfl) (by decide) (by decide) (by decide) (by decide) ?_
            refine V_istore dX7_why_69 (by decide) ?_
            refine V_iload dX7_why_71 rfl ?_
            refine V_iconst (v := -1) dX7_why_73 (by decide) ?_
            refine V_icmp_eq 86 dX7_why_74 (by decide) (fun h74 => ?_) (fun h74 => ?_)
            · skip
              refine V_iconst (v := 0) dX7_why_86 (by decide) ?_
              refine V_iret dX7_why_87 rfl (by decide) (by decide) ?_
              have c : ¬ at10 (g 3) p = -1 := fun c => h23 (if_pos c)
              have h74 : fi (pRed (g 17) (orI g p)) nT 0 = -1 := h74
              exact fin2 (by rw [dWhy, if_pos (bI_1 h4), if_pos (bI_1 h12), if_neg c, if_neg (nb (bI_0 h31)), if_pos h53, if_pos h74]) hw1
            · skip
              refine V_sipush (v := 200) dX7_why_77 (by decide) ?_
              refine V_iload dX7_why_80 rfl ?_
              refine V_iadd dX7_why_82 ?_
              refine V_goto 87 dX7_why_83 (by decide) ?_
              refine V_iret dX7_why_87 rfl (by decide) (by decide) ?_
              have c : ¬ at10 (g 3) p = -1 := fun c => h23 (if_pos c)
              have h74 : ¬ fi (pRed (g 17) (orI g p)) nT 0 = -1 := h74
              exact fin2 (by rw [dWhy, if_pos (bI_1 h4), if_pos (bI_1 h12), if_neg c, if_neg (nb (bI_0 h31)), if_pos h53, if_neg h74]; rfl) hw1
          · skip
            refine V_bipush (v := 100) dX7_why_56 (by decide) ?_
            refine V_iload_n dX7_why_58 rfl ?_
            refine V_iadd dX7_why_59 ?_
            refine V_iret dX7_why_60 rfl (by decide) (by decide) ?_
            have c : ¬ at10 (g 3) p = -1 := fun c => h23 (if_pos c)
            exact fin2 (by rw [dWhy, if_pos (bI_1 h4), if_pos (bI_1 h12), if_neg c, if_neg (nb (bI_0 h31)), if_neg h53]) hw1
        · skip
          refine V_iconst (v := -1) dX7_why_34 (by decide) ?_
          refine V_iret dX7_why_35 rfl (by decide) (by decide) ?_
          have c : ¬ at10 (g 3) p = -1 := fun c => h23 (if_pos c)
          exact fin2 (by rw [dWhy, if_pos (bI_1 h4), if_pos (bI_1 h12), if_neg c, if_pos (bI_1 h31)]) hw
def dOrder (g : Nat → Nat → Int32) (i : Int32) : Int32 := if cutB g = true then (if i < 0 then -1 else if g 18 1 ≤ i then -1 else if 10 ≤ i then -1 else g 19 i.toNatClampNeg) else -1
def dGiveUp (g : Nat → Nat → Int32) (nP : Nat) : Int32 × (Nat → Nat → Int32) := if cutB g = true then (1, endG g nP) else (0, g)
def dOneWay (g : Nat → Nat → Int32) (nW : Nat) (p v is : Int32) : Int32 × (Nat → Nat → Int32) := if isPt g p = true then if isVer v = true then if is = 0 then (if fi (pWay (g 22) (g 23) p v) nW 0 = -1 then 0 else 1, if fi (pWay (g 22) (g 23) p v) nW 0 = -1 then g else delWay g (fi (pWay (g 22) (g 23) p v) nW 0).toNatClampNeg) else (if 60 ≤ g 21 2 then 0 else if fi (pWay (g 22) (g 23) p v) nW 0 = -1 then 1 else 0, if 60 ≤ g 21 2 then g else if fi (pWay (g 22) (g 23) p v) nW 0 = -1 then addWay g p v else g) else (0, g) else (0, g)
set_option maxHeartbeats 4000000 in
set_option maxRecDepth 20000 in
theorem ct_X7_order (hw : WF E ad el g w0 ws) (i : Int32) : Ct E yX7_order cX7_order 2 (some (.int)) 1 0 0 [.ref (ad 0), .int i] ws (fun r w => r = some (.int (dOrder g i)) ∧ w = ws) := by
  refine Ct_of mw_X7_order rfl (Nat.le_of_ble_eq_true rfl) ?_
  refine V_aload_n dX7_order_0 rfl ?_
  refine V_rdV (0) mw_X7_isCutAtHand mv_X7_72 dX7_order_1 (ct_X7_isCutAtHand hw) hw.p0 rfl rfl rfl (Nat.le_of_ble_eq_true rfl) (by decide) (by decide) (by decide) (by decide) ?_
  refine V_if_eq 18 dX7_order_4 (by decide) (fun h4 => ?_) (fun h4 => ?_)
  · skip
    refine V_iconst (v := -1) dX7_order_18 (by decide) ?_
    refine V_iret dX7_order_19 rfl (by decide) (by decide) ?_
    exact fin1 (by rw [dOrder, if_neg (nb (bI_0 h4))])
  · skip
    refine V_aload_n dX7_order_7 rfl ?_
    refine V_get (0) fl_X7_40 dX7_order_8 hw.p0 rfl ?_
    refine V_iload_n dX7_order_11 rfl ?_
    refine V_rdV (18) mw_X4_partAt mv_X7_154 dX7_order_12 (ct_X4_partAt hw i) hw.p18 rfl rfl rfl (Nat.le_of_ble_eq_true rfl) (by decide) (by decide) (by decide) (by decide) ?_
    refine V_goto 19 dX7_order_15 (by decide) ?_
    refine V_iret dX7_order_19 rfl (by decide) (by decide) ?_
    exact fin1 (by rw [dOrder, if_pos (bI_1 h4)])
set_option maxHeartbeats 4000000 in
set_option maxRecDepth 20000 in
theorem ct_X7_giveUp (hw : Wd E ad el g ws) {nP : Nat} (hP : g 0 9 = nI nP) (hP10 : nP ≤ 10) : Ct E yX7_giveUp cX7_giveUp 1 (some (.boolean)) 3 0 0 [.ref (ad 0)] ws (fun r w => r = some (.int (dGiveUp g nP).1) ∧ WF E ad el (dGiveUp g nP).2 ws w) := by
  refine Ct_of mw_X7_giveUp rfl (Nat.le_of_ble_eq_true rfl) ?_
  have hw := WF.rf hw
  refine V_aload_n dX7_giveUp_0 rfl ?_
  refine V_rdV (0) mw_X7_isCutAtHand mv_X7_72 dX7_giveUp_1 (ct_X7_isCutAtHand hw) hw.p0 rfl rfl rfl (Nat.le_of_ble_eq_true rfl) (by decide) (by decide) (by decide) (by decide) ?_
  refine V_if_ne 9 dX7_giveUp_4 (by decide) (fun h4 => ?_) (fun h4 => ?_)
  · skip
    refine V_aload_n dX7_giveUp_9 rfl ?_
    refine V_callV (0) mw_X7_endCut mv_X7_177 dX7_giveUp_10 (ct_X7_endCut hw.1 hP hP10) hw.p0 rfl rfl rfl (Nat.le_of_ble_eq_true rfl) (by decide) (by decide) (by decide) (by decide) (fun r10 ws1 hp10 => ?_)
    obtain ⟨rfl, hw1⟩ := hp10
    have hw1 := hw.trans hw1
    refine V_iconst (v := 1) dX7_giveUp_13 (by decide) ?_
    refine V_zret dX7_giveUp_14 rfl (by first | exact Or.inl rfl | exact Or.inr rfl) (by decide) (by decide) ?_
    exact fin2 (by rw [dGiveUp, if_pos (bI_1 h4)]) hw1
  · skip
    refine V_iconst (v := 0) dX7_giveUp_7 (by decide) ?_
    refine V_zret dX7_giveUp_8 rfl (by first | exact Or.inl rfl | exact Or.inr rfl) (by decide) (by decide) ?_
    exact fin2 (by rw [dGiveUp, if_neg (nb (bI_0 h4))]) hw
set_option maxHeartbeats 4000000 in
set_option maxRecDepth 20000 in
theorem ct_X7_oneWay (hw : Wd E ad el g ws) {nW : Nat} (hW : g 21 2 = nI nW) (hW60 : nW ≤ 60) (p v is : Int32) : Ct E yX7_oneWay cX7_oneWay 4 (some (.boolean)) 2 0 0 [.ref (ad 0), .int p, .int v, .int is] ws (fun r w => r = some (.int (dOneWay g nW p v is).1) ∧ WF E ad el (dOneWay g nW p v is).2 ws w) := by
  refine Ct_of mw_X7_oneWay rfl (Nat.le_of_ble_eq_true rfl) ?_
  have hw := WF.rf hw
  refine V_aload_n dX7_oneWay_0 rfl ?_
  refine V_iload_n dX7_oneWay_1 rfl ?_
  refine V_rdV (0) mw_X7_isPart mv_X7_80 dX7_oneWay_2 (ct_X7_isPart hw p) hw.p0 rfl rfl rfl (Nat.le_of_ble_eq_true rfl) (by decide) (by decide) (by decide) (by decide) ?_
  refine V_if_eq 15 dX7_oneWay_5 (by decide) (fun h5 => ?_) (fun h5 => ?_)
  · skip
    refine V_iconst (v := 0) dX7_oneWay_15 (by decide) ?_
    refine V_zret dX7_oneWay_16 rfl (by first | exact Or.inl rfl | exact Or.inr rfl) (by decide) (by decide) ?_
    exact fin2 (by rw [dOneWay, if_neg (nb (bI_0 h5))]) hw
  · skip
    refine V_iload_n dX7_oneWay_8 rfl ?_
    refine V_rdS mw_X7_isVersion ms_X7_76 dX7_oneWay_9 (ct_X7_isVersion v) rfl rfl (Nat.le_of_ble_eq_true rfl) (by decide) (by decide) (by decide) (by decide) ?_
    refine V_if_ne 17 dX7_oneWay_12 (by decide) (fun h12 => ?_) (fun h12 => ?_)
    · skip
      refine V_iload_n dX7_oneWay_17 rfl ?_
      refine V_if_eq 33 dX7_oneWay_18 (by decide) (fun h18 => ?_) (fun h18 => ?_)
      · skip
        refine V_aload_n dX7_oneWay_33 rfl ?_
        refine V_get (0) fl_X7_54 dX7_oneWay_34 hw.p0 rfl ?_
        refine V_iload_n dX7_oneWay_37 rfl ?_
        refine V_iload_n dX7_oneWay_38 rfl ?_
        refine V_callV (21) mw_X3_remove mv_X7_183 dX7_oneWay_39 (ct_X3_remove hw.1 p v hW hW60) hw.p21 rfl rfl rfl (Nat.le_of_ble_eq_true rfl) (by decide) (by decide) (by decide) (by decide) (fun r39 ws1 hp39 => ?_)
        obtain ⟨rfl, hw1⟩ := hp39
        have hw1 := hw.trans hw1
        refine V_zret dX7_oneWay_42 rfl (by split <;> first | exact Or.inl rfl | exact Or.inr rfl) (by decide) (by decide) ?_
        exact fin2 (by rw [dOneWay, if_pos (bI_1 h5), if_pos (bI_1 h12), if_pos h18]) hw1
      · skip
        refine V_aload_n dX7_oneWay_21 rfl ?_
        refine V_get (0) fl_X7_54 dX7_oneWay_22 hw.p0 rfl ?_
        refine V_iload_n dX7_oneWay_25 rfl ?_
        refine V_iload_n dX7_oneWay_26 rfl ?_
        refine V_callV (21) mw_X3_add mv_X7_180 dX7_oneWay_27 (ct_X3_add hw.1 p v hW hW60) hw.p21 rfl rfl rfl (Nat.le_of_ble_eq_true rfl) (by decide) (by decide) (by decide) (by decide) (fun r27 ws1 hp27 => ?_)
        obtain ⟨rfl, hw1⟩ := hp27
        have hw1 := hw.trans hw1
        refine V_goto 42 dX7_oneWay_30 (by decide) ?_
        refine V_zret dX7_oneWay_42 rfl (by split <;> first | exact Or.inl rfl | (split <;> first | exact Or.inl rfl | exact Or.inr rfl)) (by decide) (by decide) ?_
        exact fin2 (by rw [dOneWay, if_pos (bI_1 h5), if_pos (bI_1 h12), if_neg h18]) hw1
    · skip
      refine V_iconst (v := 0) dX7_oneWay_15 (by decide) ?_
      refine V_zret dX7_oneWay_16 rfl (by first | exact Or.inl rfl | exact Or.inr rfl) (by decide) (by decide) ?_
      exact fin2 (by rw [dOneWay, if_pos (bI_1 h5), if_neg (nb (bI_0 h12))]) hw
def dBlame (g : Nat → Nat → Int32) (nT : Nat) (set : Int32) : Int32 × (Nat → Nat → Int32) := if areP g set = true then (nI (hunt g nT set.toNatClampNeg).1, setH g (hunt g nT set.toNatClampNeg).1 (hunt g nT set.toNatClampNeg).2) else (-1, g)
def dRuns (g : Nat → Nat → Int32) (nT : Nat) (set : Int32) : Int32 × (Nat → Nat → Int32) := if areP g set = true then (nI (hunt g nT set.toNatClampNeg).2, setH g (hunt g nT set.toNatClampNeg).1 (hunt g nT set.toNatClampNeg).2) else (-1, g)
theorem areP_set {g : Nat → Nat → Int32} {set : Int32} {nP : Nat} (hP : g 0 9 = nI nP) (hP10 : nP ≤ 10) (h : areP g set = true) : ∃ S, S < 2 ^ nP ∧ set = nI S := by
  rw [areP, decide_eq_true_eq, hP, shl1 nP (by omega)] at h
  have h2 : 2 ^ nP = (2 ^ nP - 1) + 1 := by have := Nat.pow_pos (n := nP) (show 0 < 2 by decide); omega
  rw [h2, nI_pred] at h
  refine ⟨set.toBitVec.toNat % 2 ^ nP, Nat.mod_lt _ (Nat.pow_pos (by decide)), ?_⟩
  have h3 : 2 ^ nP - 1 < 2 ^ 32 := by have : 2 ^ nP ≤ 2 ^ 10 := Nat.pow_le_pow_right (by decide) hP10; omega
  rw [← pk_and set (m := nI (2 ^ nP - 1)) nP (by rw [pk_tn h3])]
  apply Int32.toBitVec_inj.1
  have h4 : (set &&& (nI (2 ^ nP - 1) ^^^ -1)).toBitVec = 0#32 := by rw [h]; rfl
  rw [Int32.toBitVec_and, Int32.toBitVec_xor] at h4
  rw [Int32.toBitVec_and]
  apply BitVec.eq_of_getLsbD_eq
  intro i hi
  have h5 := congrArg (fun b => b.getLsbD i) h4
  simp only [BitVec.getLsbD_and, BitVec.getLsbD_xor, show (-1 : Int32).toBitVec = BitVec.allOnes 32 from rfl, BitVec.getLsbD_allOnes, hi, decide_true, BitVec.getLsbD_zero] at h5
  rw [BitVec.getLsbD_and]
  cases h6 : set.toBitVec.getLsbD i
  · rfl
  · rw [h6] at h5
    cases h7 : (nI (2 ^ nP - 1)).toBitVec.getLsbD i
    · rw [h7] at h5; exact absurd h5 (by decide)
    · rfl
set_option maxHeartbeats 4000000 in
set_option maxRecDepth 20000 in
theorem ct_X7_blame (hw : Wd E ad el g ws) (hE : NST E) {nP : Nat} (hP : g 0 9 = nI nP) (hP10 : nP ≤ 10) {nT : Nat} (hT : g 16 1 = nI nT) (hT12 : nT ≤ 12) {x0 : Nat} (hx0 : nI x0 = g 20 0) (set : Int32) : Ct E yX7_blame cX7_blame 2 (some (.int)) 5 0 0 [.ref (ad 0), .int set] ws (fun r w => r = some (.int (dBlame g nT set).1) ∧ WF E ad el (dBlame g nT set).2 ws w) := by
  refine Ct_of mw_X7_blame rfl (Nat.le_of_ble_eq_true rfl) ?_
  have hw := WF.rf hw
  have hfo : areP g set = true → ∀ {w : va_W}, Wd E ad el g w → Ct E yX0_follow cX0_follow 8 none 4 0 0 [.ref (ad 20), .ref (ad 16), .int set] w (fun r w9 => r = none ∧ WF E ad el (setH g (hunt g nT set.toNatClampNeg).1 (hunt g nT set.toNatClampNeg).2) w w9) := by
    intro h w hw
    obtain ⟨S, hS, rfl⟩ := areP_set hP hP10 h
    have hS2 : S < 1024 := Nat.lt_of_lt_of_le hS (Nat.pow_le_pow_right (by decide) hP10)
    rw [nI_clamp (by omega)]
    exact ct_X0_follow hw hT hT12 hS2 hx0
  refine V_aload_n dX7_blame_0 rfl ?_
  refine V_iload_n dX7_blame_1 rfl ?_
  refine V_rdV (0) mw_X7_areParts mv_X7_109 dX7_blame_2 (ct_X7_areParts hw set) hw.p0 rfl rfl rfl (Nat.le_of_ble_eq_true rfl) (by decide) (by decide) (by decide) (by decide) ?_
  refine V_if_ne 10 dX7_blame_5 (by decide) (fun h5 => ?_) (fun h5 => ?_)
  · skip
    refine V_aload_n dX7_blame_10 rfl ?_
    refine V_get (0) fl_X7_47 dX7_blame_11 hw.p0 rfl ?_
    refine V_aload_n dX7_blame_14 rfl ?_
    refine V_get (0) fl_X7_33 dX7_blame_15 hw.p0 rfl ?_
    refine V_iload_n dX7_blame_18 rfl ?_
    refine V_callV (20) mw_X0_follow mv_X7_216 dX7_blame_19 (hfo (bI_1 h5) hw.1) hw.p20 rfl rfl rfl (Nat.le_of_ble_eq_true rfl) (by decide) (by decide) (by decide) (by decide) (fun r19 ws1 hp19 => ?_)
    obtain ⟨rfl, hw1⟩ := hp19
    have hw1 := hw.trans hw1
    refine V_aload_n dX7_blame_22 rfl ?_
    refine V_get (0) fl_X7_47 dX7_blame_23 hw1.p0 rfl ?_
    refine V_getN (20) hE fn_X7_220 dX7_blame_26 hw1.p20 rfl ?_
    refine V_iret dX7_blame_29 rfl (by decide) (by decide) ?_
    exact fin2 (by rw [dBlame, if_pos (bI_1 h5)]; rfl) hw1
  · skip
    refine V_iconst (v := -1) dX7_blame_8 (by decide) ?_
    refine V_iret dX7_blame_9 rfl (by decide) (by decide) ?_
    exact fin2 (by rw [dBlame, if_neg (nb (bI_0 h5))]) hw
set_option maxHeartbeats 4000000 in
set_option maxRecDepth 20000 in
theorem ct_X7_runs (hw : Wd E ad el g ws) (hE : NST E) {nP : Nat} (hP : g 0 9 = nI nP) (hP10 : nP ≤ 10) {nT : Nat} (hT : g 16 1 = nI nT) (hT12 : nT ≤ 12) {x0 : Nat} (hx0 : nI x0 = g 20 0) (set : Int32) : Ct E yX7_runs cX7_runs 2 (some (.int)) 5 0 0 [.ref (ad 0), .int set] ws (fun r w => r = some (.int (dRuns g nT set).1) ∧ WF E ad el (dRuns g nT set).2 ws w) := by
  refine Ct_of mw_X7_runs rfl (Nat.le_of_ble_eq_true rfl) ?_
  have hw := WF.rf hw
  have hfo : areP g set = true → ∀ {w : va_W}, Wd E ad el g w → Ct E yX0_follow cX0_follow 8 none 4 0 0 [.ref (ad 20), .ref (ad 16), .int set] w (fun r w9 => r = none ∧ WF E ad el (setH g (hunt g nT set.toNatClampNeg).1 (hunt g nT set.toNatClampNeg).2) w w9) := by
    intro h w hw
    obtain ⟨S, hS, rfl⟩ := areP_set hP hP10 h
    have hS2 : S < 1024 := Nat.lt_of_lt_of_le hS (Nat.pow_le_pow_right (by decide) hP10)
    rw [nI_clamp (by omega)]
    exact ct_X0_follow hw hT hT12 hS2 hx0
  refine V_aload_n dX7_runs_0 rfl ?_
  refine V_iload_n dX7_runs_1 rfl ?_
  refine V_rdV (0) mw_X7_areParts mv_X7_109 dX7_runs_2 (ct_X7_areParts hw set) hw.p0 rfl rfl rfl (Nat.le_of_ble_eq_true rfl) (by decide) (by decide) (by decide) (by decide) ?_
  refine V_if_ne 10 dX7_runs_5 (by decide) (fun h5 => ?_) (fun h5 => ?_)
  · skip
    refine V_aload_n dX7_runs_10 rfl ?_
    refine V_get (0) fl_X7_47 dX7_runs_11 hw.p0 rfl ?_
    refine V_aload_n dX7_runs_14 rfl ?_
    refine V_get (0) fl_X7_33 dX7_runs_15 hw.p0 rfl ?_
    refine V_iload_n dX7_runs_18 rfl ?_
    refine V_callV (20) mw_X0_follow mv_X7_216 dX7_runs_19 (hfo (bI_1 h5) hw.1) hw.p20 rfl rfl rfl (Nat.le_of_ble_eq_true rfl) (by decide) (by decide) (by decide) (by decide) (fun r19 ws1 hp19 => ?_)
    obtain ⟨rfl, hw1⟩ := hp19
    have hw1 := hw.trans hw1
    refine V_aload_n dX7_runs_22 rfl ?_
    refine V_get (0) fl_X7_47 dX7_runs_23 hw1.p0 rfl ?_
    refine V_getN (20) hE fn_X7_223 dX7_runs_26 hw1.p20 rfl ?_
    refine V_iret dX7_runs_29 rfl (by decide) (by decide) ?_
    exact fin2 (by rw [dRuns, if_pos (bI_1 h5)]; rfl) hw1
  · skip
    refine V_iconst (v := -1) dX7_runs_8 (by decide) ?_
    refine V_iret dX7_runs_9 rfl (by decide) (by decide) ?_
    exact fin2 (by rw [dRuns, if_neg (nb (bI_0 h5))]) hw
def dTold (g : Nat → Nat → Int32) (p wh : Int32) : Int32 := if isPt g p = true then if wh = 0 then g 1 p.toNatClampNeg else if wh = 1 then at10 (g 3) p else if wh = 2 then at10 (g 4) p else if wh = 3 then at10 (g 6) p else if wh = 4 then at10 (g 7) p else -1 else -1
set_option maxHeartbeats 4000000 in
set_option maxRecDepth 20000 in
theorem ct_X7_told (hw : WF E ad el g w0 ws) {nP : Nat} (hP : g 0 9 = nI nP) (hP10 : nP ≤ 10) (p wh : Int32) : Ct E yX7_told cX7_told 3 (some (.int)) 1 0 0 [.ref (ad 0), .int p, .int wh] ws (fun r w => r = some (.int (dTold g p wh)) ∧ w = ws) := by
  refine Ct_of mw_X7_told rfl (Nat.le_of_ble_eq_true rfl) ?_
  refine V_aload_n dX7_told_0 rfl ?_
  refine V_iload_n dX7_told_1 rfl ?_
  refine V_rdV (0) mw_X7_isPart mv_X7_80 dX7_told_2 (ct_X7_isPart hw p) hw.p0 rfl rfl rfl (Nat.le_of_ble_eq_true rfl) (by decide) (by decide) (by decide) (by decide) ?_
  refine V_if_ne 10 dX7_told_5 (by decide) (fun h5 => ?_) (fun h5 => ?_)
  · skip
    refine V_iload_n dX7_told_10 rfl ?_
    rcases pk_ix wh (n := 5) (by decide) with q | q | ⟨j, hj, rfl⟩
    · refine V_tableOut 87 dX7_told_11 (Or.inl (by rw [Int32.lt_iff_toInt_lt] at q; exact q)) (by decide) ?_
      refine V_iconst (v := -1) dX7_told_87 (by decide) ?_
      refine V_iret dX7_told_88 rfl (by decide) (by decide) ?_
      have n0 : ∀ j, j < 5 → ¬ wh = nI j := fun j hj e => by rw [e] at q; exact absurd q (nI_pos (by omega))
      exact fin1 (by rw [dTold, if_pos (bI_1 h5), if_neg (show ¬ wh = 0 from n0 0 (by decide)), if_neg (show ¬ wh = 1 from n0 1 (by decide)), if_neg (show ¬ wh = 2 from n0 2 (by decide)), if_neg (show ¬ wh = 3 from n0 3 (by decide)), if_neg (show ¬ wh = 4 from n0 4 (by decide))])
    · refine V_tableOut 87 dX7_told_11 (Or.inr (by rw [Int32.le_iff_toInt_le, nI_toInt (by decide)] at q; omega)) (by decide) ?_
      refine V_iconst (v := -1) dX7_told_87 (by decide) ?_
      refine V_iret dX7_told_88 rfl (by decide) (by decide) ?_
      have n0 : ∀ j, j < 5 → ¬ wh = nI j := fun j hj e => by rw [e] at q; exact absurd (leK (by decide) (by omega) q) (by omega)
      exact fin1 (by rw [dTold, if_pos (bI_1 h5), if_neg (show ¬ wh = 0 from n0 0 (by decide)), if_neg (show ¬ wh = 1 from n0 1 (by decide)), if_neg (show ¬ wh = 2 from n0 2 (by decide)), if_neg (show ¬ wh = 3 from n0 3 (by decide)), if_neg (show ¬ wh = 4 from n0 4 (by decide))])
    · rcases (show j = 0 ∨ j = 1 ∨ j = 2 ∨ j = 3 ∨ j = 4 by omega) with rfl | rfl | rfl | rfl | rfl
      · refine V_tableIn 44 dX7_told_11 (by decide) (by decide) rfl (by decide) ?_
        refine V_aload_n dX7_told_44 rfl ?_
        refine V_get (0) fl_X7_9 dX7_told_45 hw.p0 rfl ?_
        refine V_iload_n dX7_told_48 rfl ?_
        refine V_iald (1) dX7_told_49 hw.p1 (by obtain ⟨j, hj, rfl⟩ := isPt_in hP hP10 (bI_1 h5); exact vp_in_nI (by omega) (by decide)) ?_
        refine V_iret dX7_told_50 rfl (by decide) (by decide) ?_
        exact fin1 (by rw [dTold, if_pos (bI_1 h5), if_pos (show nI 0 = 0 by decide)])
      · refine V_tableIn 51 dX7_told_11 (by decide) (by decide) rfl (by decide) ?_
        refine V_aload_n dX7_told_51 rfl ?_
        refine V_get (0) fl_X7_16 dX7_told_52 hw.p0 rfl ?_
        refine V_iload_n dX7_told_55 rfl ?_
        refine V_rdV (2) mw_X2_versionOf mv_X7_141 dX7_told_56 (ct_X2_versionOf hw (Or.inl rfl) p) hw.p2 rfl rfl rfl (Nat.le_of_ble_eq_true rfl) (by decide) (by decide) (by decide) (by decide) ?_
        refine V_iret dX7_told_59 rfl (by decide) (by decide) ?_
        exact fin1 (by rw [dTold, if_pos (bI_1 h5), if_neg (show ¬ nI 1 = 0 by decide), if_pos (show nI 1 = 1 by decide)])
      · refine V_tableIn 60 dX7_told_11 (by decide) (by decide) rfl (by decide) ?_
        refine V_aload_n dX7_told_60 rfl ?_
        refine V_get (0) fl_X7_16 dX7_told_61 hw.p0 rfl ?_
        refine V_iload_n dX7_told_64 rfl ?_
        refine V_rdV (2) mw_X2_worthOf mv_X7_144 dX7_told_65 (ct_X2_worthOf hw (Or.inl rfl) p) hw.p2 rfl rfl rfl (Nat.le_of_ble_eq_true rfl) (by decide) (by decide) (by decide) (by decide) ?_
        refine V_iret dX7_told_68 rfl (by decide) (by decide) ?_
        exact fin1 (by rw [dTold, if_pos (bI_1 h5), if_neg (show ¬ nI 2 = 0 by decide), if_neg (show ¬ nI 2 = 1 by decide), if_pos (show nI 2 = 2 by decide)])
      · refine V_tableIn 69 dX7_told_11 (by decide) (by decide) rfl (by decide) ?_
        refine V_aload_n dX7_told_69 rfl ?_
        refine V_get (0) fl_X7_20 dX7_told_70 hw.p0 rfl ?_
        refine V_iload_n dX7_told_73 rfl ?_
        refine V_rdV (5) mw_X2_versionOf mv_X7_141 dX7_told_74 (ct_X2_versionOf hw (Or.inr rfl) p) hw.p5 rfl rfl rfl (Nat.le_of_ble_eq_true rfl) (by decide) (by decide) (by decide) (by decide) ?_
        refine V_iret dX7_told_77 rfl (by decide) (by decide) ?_
        exact fin1 (by rw [dTold, if_pos (bI_1 h5), if_neg (show ¬ nI 3 = 0 by decide), if_neg (show ¬ nI 3 = 1 by decide), if_neg (show ¬ nI 3 = 2 by decide), if_pos (show nI 3 = 3 by decide)])
      · refine V_tableIn 78 dX7_told_11 (by decide) (by decide) rfl (by decide) ?_
        refine V_aload_n dX7_told_78 rfl ?_
        refine V_get (0) fl_X7_20 dX7_told_79 hw.p0 rfl ?_
        refine V_iload_n dX7_told_82 rfl ?_
        refine V_rdV (5) mw_X2_worthOf mv_X7_144 dX7_told_83 (ct_X2_worthOf hw (Or.inr rfl) p) hw.p5 rfl rfl rfl (Nat.le_of_ble_eq_true rfl) (by decide) (by decide) (by decide) (by decide) ?_
        refine V_iret dX7_told_86 rfl (by decide) (by decide) ?_
        exact fin1 (by rw [dTold, if_pos (bI_1 h5), if_neg (show ¬ nI 4 = 0 by decide), if_neg (show ¬ nI 4 = 1 by decide), if_neg (show ¬ nI 4 = 2 by decide), if_neg (show ¬ nI 4 = 3 by decide), if_pos (show nI 4 = 4 by decide)])
  · skip
    refine V_iconst (v := -1) dX7_told_8 (by decide) ?_
    refine V_iret dX7_told_9 rfl (by decide) (by decide) ?_
    exact fin1 (by rw [dTold, if_neg (nb (bI_0 h5))])
end DK2
