/-! ===== the reference: blame ===== -/
def setM (g : Nat → Nat → Int32) (S c : Nat) : Nat → Nat → Int32 := va_up g 25 (upd (upd (g 25) 31 (nI S)) 32 (nI c))
theorem upd_sw (f : Nat → Int32) {a b : Nat} (h : a ≠ b) (x y : Int32) : upd (upd f a x) b y = upd (upd f b y) a x := by
  funext j
  unfold upd
  by_cases h1 : j = a
  · by_cases h2 : j = b
    · exact absurd (h1.symm.trans h2) h
    · simp [h1, h]
  · by_cases h2 : j = b
    · simp [h2, Ne.symm h]
    · simp [h1, h2]
theorem setM_c (g : Nat → Nat → Int32) (S c c2 : Nat) (x : Int32) (hx : x = nI c2) : va_up (setM g S c) 25 (upd ((setM g S c) 25) 32 x) = setM g S c2 := by
  subst hx
  show va_up (va_up g 25 _) 25 (upd (upd (upd (g 25) 31 (nI S)) 32 (nI c)) 32 (nI c2)) = _
  rw [upd_upd, va_up_up]
  rfl
theorem setM_S (g : Nat → Nat → Int32) (S c S2 : Nat) (x : Int32) (hx : x = nI S2) : va_up (setM g S c) 25 (upd ((setM g S c) 25) 31 x) = setM g S2 c := by
  subst hx
  show va_up (va_up g 25 _) 25 (upd (upd (upd (g 25) 31 (nI S)) 32 (nI c)) 31 (nI S2)) = _
  rw [va_up_up, upd_sw _ (show (31 : Nat) ≠ 32 by decide), upd_upd, upd_sw _ (show (32 : Nat) ≠ 31 by decide)]
  rfl
def mRedB (g : Nat → Nat → Int32) (nT S : Nat) : Bool := !decide (mRed g nT (nI S) = -1)
/-- those of the first p parts of S that are number f .. f + m - 1 of it -/
def pcN (S f m : Nat) : Nat → Nat
  | 0 => 0
  | p + 1 => if (S.testBit p && (decide (f ≤ cnt S p) && decide (cnt S p < f + m))) = true then pcN S f m p ||| 2 ^ p else pcN S f m p
def pcF (S k n : Nat) : Nat := k * (popc S / n) + (if popc S % n < k then popc S % n else k)
def pcM (S k n : Nat) : Nat := popc S / n + (if k < popc S % n then 1 else 0)
def mPiece (nP S k n : Nat) : Nat := pcN S (pcF S k n) (pcM S k n) nP
theorem pcN_lt (S f m : Nat) : ∀ p, pcN S f m p < 2 ^ p
  | 0 => Nat.zero_lt_one
  | p + 1 => by
    unfold pcN
    have h := pcN_lt S f m p
    have h2 : 2 ^ p < 2 ^ (p + 1) := Nat.pow_lt_pow_right (by decide) (by omega)
    split
    · exact Nat.or_lt_two_pow (by omega) h2
    · omega
theorem cnt_le (S : Nat) : ∀ k, cnt S k ≤ k
  | 0 => Nat.le_refl _
  | k + 1 => by
    unfold cnt
    have := cnt_le S k
    split <;> omega
def mwpL (g : Nat → Nat → Int32) (nT nP S n : Nat) : Nat → Nat → Nat → Option Nat × Nat
  | 0, _, c => (none, c)
  | k + 1, i, c => if mRedB g nT (dif S (mPiece nP S i n)) = true then (some (dif S (mPiece nP S i n)), c + 1) else mwpL g nT nP S n k (i + 1) (c + 1)
def mfoL (g : Nat → Nat → Int32) (nT nP : Nat) : Nat → Nat → Nat → Bool → Nat → Nat × Nat
  | 0, S, _, _, c => (S, c)
  | k + 1, S, n, ov, c => if ov = true then (S, c) else if popc S ≤ 1 then (S, c) else
    match mwpL g nT nP S n n 0 c with
    | (some S2, c2) => mfoL g nT nP k S2 (if n - 1 < 2 then 2 else n - 1) false c2
    | (none, c2) => mfoL g nT nP k S (if popc S < n * 2 then popc S else n * 2) (decide (popc S ≤ n)) c2
/-- the hunt is over within k turns -/
def mStp (g : Nat → Nat → Int32) (nT nP : Nat) : Nat → Nat → Nat → Bool → Nat → Prop
  | 0, S, _, ov, _ => ov = true ∨ popc S ≤ 1
  | k + 1, S, n, ov, c => ov = true ∨ popc S ≤ 1 ∨
    match mwpL g nT nP S n n 0 c with
    | (some S2, c2) => mStp g nT nP k S2 (if n - 1 < 2 then 2 else n - 1) false c2
    | (none, c2) => mStp g nT nP k S (if popc S < n * 2 then popc S else n * 2) (decide (popc S ≤ n)) c2
def mHunt (g : Nat → Nat → Int32) (nT nP S : Nat) : Nat × Nat := if mRedB g nT S = true then mfoL g nT nP 1000 S 2 false 1 else (0, 1)
theorem mwpL_lt {g : Nat → Nat → Int32} {nT nP S n : Nat} (hS : S < 1024) : ∀ (k i c : Nat) (S2 : Nat), (mwpL g nT nP S n k i c).1 = some S2 → S2 < 1024
  | 0, _, _, _, h => by cases h
  | k + 1, i, c, S2, h => by
    unfold mwpL at h
    split at h
    · cases h
      exact dif_lt hS
    · exact mwpL_lt hS k _ _ S2 h
def mBlame (g : Nat → Nat → Int32) (nT nP : Nat) (set : Int32) : Int32 × (Nat → Nat → Int32) := if mSetB g set = true then (nI (mHunt g nT nP set.toNatClampNeg).1, setM g (mHunt g nT nP set.toNatClampNeg).1 (mHunt g nT nP set.toNatClampNeg).2) else (-1, g)
def mRuns (g : Nat → Nat → Int32) (nT nP : Nat) (set : Int32) : Int32 × (Nat → Nat → Int32) := if mSetB g set = true then (nI (mHunt g nT nP set.toNatClampNeg).2, setM g (mHunt g nT nP set.toNatClampNeg).1 (mHunt g nT nP set.toNatClampNeg).2) else (-1, g)
theorem mSetB_set {g : Nat → Nat → Int32} {set : Int32} {nP : Nat} (hP : g 25 19 = nI nP) (hP10 : nP ≤ 10) (h : mSetB g set = true) : ∃ S, S < 2 ^ nP ∧ set = nI S := by
  have hpw : 2 ^ nP ≤ 2 ^ 10 := Nat.pow_le_pow_right (by decide) hP10
  have hp0 : 0 < 2 ^ nP := Nat.pow_pos (by decide)
  simp only [mSetB, isInB, Bool.and_eq_true, Bool.not_eq_true', decide_eq_false_iff_not] at h
  rw [hP, shl1 nP (by omega), show 2 ^ nP = (2 ^ nP - 1) + 1 by omega, nI_pred] at h
  obtain ⟨S, hS, rfl⟩ := nI_of h.1
  exact ⟨S, by have := nltK (a := 2 ^ nP - 1) (b := S) (by omega) hS h.2; omega, rfl⟩
section MD4
variable {E : VE} {ad : Nat → Nat} {el : Nat} {g : Nat → Nat → Int32} {w0 ws : va_W}
set_option maxHeartbeats 4000000 in
set_option maxRecDepth 20000 in
theorem ct_X8_isRed {x c : Nat} (hw : Wd E ad el (setM g x c) ws) {nT : Nat} (hT : g 25 21 = nI nT) (hT12 : nT ≤ 12) (S : Nat) : Ct E yX8_isRed cX8_isRed 2 (some (.boolean)) 1 0 0 [.ref (ad 25), .int (nI S)] ws (fun r w => r = some (.int (bI (mRedB g nT S))) ∧ WF E ad el (setM g x (c + 1)) ws w) := by
  refine Ct_of mw_X8_isRed rfl (Nat.le_of_ble_eq_true rfl) ?_
  have hw := WF.rf hw
  refine V_aload_n dX8_isRed_0 rfl ?_
  refine V_dup dX8_isRed_1 rfl ?_
  refine V_get (25) fl_X8_166 dX8_isRed_2 hw.p25 rfl ?_
  refine V_iconst (v := 1) dX8_isRed_5 (by decide) ?_
  refine V_iadd dX8_isRed_6 ?_
  refine W_put (25) hw (by decide) fp_X8_166 dX8_isRed_7 rfl rfl rfl rfl (Nat.le_of_ble_eq_true rfl) (fun ws1 hw1 => ?_)
  rw [setM_c g x c (c + 1) _ (show setM g x c 25 32 + 1 = nI (c + 1) from nI_1 c)] at hw1
  refine V_aload_n dX8_isRed_10 rfl ?_
  refine V_iload_n dX8_isRed_11 rfl ?_
  refine V_rdV (25) mw_X8_redOf mv_X8_118 dX8_isRed_12 (ct_X8_redOf (g := setM g x (c + 1)) hw1 hT hT12 (nI S)) hw1.p25 rfl rfl rfl (Nat.le_of_ble_eq_true rfl) (by decide) (by decide) (by decide) (by decide) ?_
  refine V_iconst (v := -1) dX8_isRed_15 (by decide) ?_
  refine V_icmp_eq 23 dX8_isRed_16 (by decide) (fun h16 => ?_) (fun h16 => ?_)
  · skip
    refine V_iconst (v := 0) dX8_isRed_23 (by decide) ?_
    refine V_zret dX8_isRed_24 rfl (by first | exact Or.inl rfl | exact Or.inr rfl) (by decide) (by decide) ?_
    have h17 : mRed g nT (nI S) = -1 := h16
    exact ⟨by rw [mRedB, decide_eq_true h17]; rfl, hw1⟩
  · skip
    refine V_iconst (v := 1) dX8_isRed_19 (by decide) ?_
    refine V_goto 24 dX8_isRed_20 (by decide) ?_
    refine V_zret dX8_isRed_24 rfl (by first | exact Or.inl rfl | exact Or.inr rfl) (by decide) (by decide) ?_
    have h17 : ¬ mRed g nT (nI S) = -1 := h16
    exact ⟨by rw [mRedB, decide_eq_false h17]; rfl, hw1⟩
set_option maxHeartbeats 4000000 in
set_option maxRecDepth 20000 in
theorem lp_X8_piece (hw : WF E ad el g w0 ws) {nP : Nat} (hP : g 25 19 = nI nP) (hP10 : nP ≤ 10) {S f mm : Nat} (hS : S < 1024) (hf : f < 1000000) (hmm : mm < 1000000) (z2 z3 z4 : Option Value) : ∀ (k p : Nat) (x9 x8 x7 : Int32), p ≤ nP → nP < p + k → x9 = nI p → x8 = nI (cnt S p) → x7 = nI (pcN S f mm p) → V E yX8_piece cX8_piece 10 (some (.int)) 2 0 0 (fun r w => r = some (.int (nI (pcN S f mm nP))) ∧ w = ws) 52 [some (.ref (ad 25)), some (.int (nI S)), z2, z3, z4, some (.int (nI f)), some (.int (nI mm)), some (.int x7), some (.int x8), some (.int x9)] [] ws 0 0 := by
  intro k
  induction k with
  | zero => intro p x9 x8 x7 h1 h2; exact absurd h2 (by omega)
  | succ k ih =>
    intro p x9 x8 x7 hpl hpn h9 h8 h7
    subst h9 h8 h7
    refine V_iload dX8_piece_52 rfl ?_
    refine V_aload_n dX8_piece_54 rfl ?_
    refine V_get (25) fl_X8_75 dX8_piece_55 hw.p25 rfl ?_
    refine V_icmp_ge 108 dX8_piece_58 (by decide) (fun h58 => ?_) (fun h58 => ?_)
    · skip
      refine V_iload dX8_piece_108 rfl ?_
      refine V_iret dX8_piece_110 rfl (by decide) (by decide) ?_
      have hp : p = nP := by have := leK (a := nP) (b := p) (by omega) (by omega) (by rw [← hP]; exact h58); omega
      subst hp
      exact ⟨rfl, rfl⟩
    · skip
      have hp := nleK (a := nP) (b := p) (by omega) (by omega) (by rw [← hP]; exact h58)
      have hcn := cnt_le S p
      refine V_iload_n dX8_piece_61 rfl ?_
      refine V_iload dX8_piece_62 rfl ?_
      refine V_rdS mw_X8_isOf ms_X8_93 dX8_piece_64 (ct_X8_isOf _ _) rfl rfl (Nat.le_of_ble_eq_true rfl) (by decide) (by decide) (by decide) (by decide) ?_
      refine V_if_ne 73 dX8_piece_67 (by decide) (fun h67 => ?_) (fun h67 => ?_)
      · skip
        refine V_iload dX8_piece_73 rfl ?_
        refine V_iload dX8_piece_75 rfl ?_
        refine V_icmp_lt 99 dX8_piece_77 (by decide) (fun h77 => ?_) (fun h77 => ?_)
        · skip
          refine V_iinc dX8_piece_99 rfl rfl (by decide) ?_
          refine V_iinc dX8_piece_102 rfl rfl (by decide) ?_
          refine V_goto 52 dX8_piece_105 (by decide) ?_
          have hb := bI_1 h67
          rw [isOfB_bit (by omega) (by omega)] at hb
          have q1 := ltK (a := cnt S p) (b := f) (by omega) (by omega) h77
          exact ih (p + 1) _ _ _ (by omega) (by omega) (nI_1 p) (by rw [cnt, if_pos hb]; exact nI_1 _) (by rw [pcN, if_neg (by simp [show ¬ f ≤ cnt S p by omega])])
        · skip
          refine V_iload dX8_piece_80 rfl ?_
          refine V_iload dX8_piece_82 rfl ?_
          refine V_iload dX8_piece_84 rfl ?_
          refine V_iadd dX8_piece_86 ?_
          rw [nI_add]
          refine V_icmp_ge 99 dX8_piece_87 (by decide) (fun h87 => ?_) (fun h87 => ?_)
          · skip
            refine V_iinc dX8_piece_99 rfl rfl (by decide) ?_
            refine V_iinc dX8_piece_102 rfl rfl (by decide) ?_
            refine V_goto 52 dX8_piece_105 (by decide) ?_
            have hb := bI_1 h67
            rw [isOfB_bit (by omega) (by omega)] at hb
            have q2 := leK (a := f + mm) (b := cnt S p) (by omega) (by omega) h87
            exact ih (p + 1) _ _ _ (by omega) (by omega) (nI_1 p) (by rw [cnt, if_pos hb]; exact nI_1 _) (by rw [pcN, if_neg (by simp [show ¬ cnt S p < f + mm by omega])])
          · skip
            refine V_iload dX8_piece_90 rfl ?_
            refine V_iconst (v := 1) dX8_piece_92 (by decide) ?_
            refine V_iload dX8_piece_93 rfl ?_
            refine V_ishl dX8_piece_95 ?_
            refine V_ior dX8_piece_96 ?_
            refine V_istore dX8_piece_97 (by decide) ?_
            refine V_iinc dX8_piece_99 rfl rfl (by decide) ?_
            refine V_iinc dX8_piece_102 rfl rfl (by decide) ?_
            refine V_goto 52 dX8_piece_105 (by decide) ?_
            have hb := bI_1 h67
            rw [isOfB_bit (by omega) (by omega)] at hb
            have q1 := nltK (a := cnt S p) (b := f) (by omega) (by omega) h77
            have q2 := nleK (a := f + mm) (b := cnt S p) (by omega) (by omega) h87
            exact ih (p + 1) _ _ _ (by omega) (by omega) (nI_1 p) (by rw [cnt, if_pos hb]; exact nI_1 _) (by rw [pcN, if_pos (by simp [hb, q1, q2]), shl1 p (by omega), nx_or])
      · skip
        refine V_goto 102 dX8_piece_70 (by decide) ?_
        refine V_iinc dX8_piece_102 rfl rfl (by decide) ?_
        refine V_goto 52 dX8_piece_105 (by decide) ?_
        have hb := bI_0 h67
        rw [isOfB_bit (by omega) (by omega)] at hb
        exact ih (p + 1) _ _ _ (by omega) (by omega) (nI_1 p) (by rw [cnt, if_neg (nb hb)]; rfl) (by rw [pcN, if_neg (by simp [hb])])
set_option maxHeartbeats 4000000 in
set_option maxRecDepth 20000 in
theorem ct_X8_piece (hw : WF E ad el g w0 ws) {nP : Nat} (hP : g 25 19 = nI nP) (hP10 : nP ≤ 10) {S k0 n : Nat} (hS : S < 1024) (hn1 : 1 ≤ n) (hn : n ≤ 1000) (hk : k0 ≤ 1000) : Ct E yX8_piece cX8_piece 10 (some (.int)) 2 0 0 [.ref (ad 25), .int (nI S), .int (nI k0), .int (nI n)] ws (fun r w => r = some (.int (nI (mPiece nP S k0 n))) ∧ w = ws) := by
  refine Ct_of mw_X8_piece rfl (Nat.le_of_ble_eq_true rfl) ?_
  have hpop := popc_le S hS
  have hn0 : ¬ nI n = 0 := nI_ne0 (by omega) (by omega)
  have hrem : popc S % n < n := Nat.mod_lt _ (by omega)
  have hq : popc S / n ≤ popc S := Nat.div_le_self _ _
  have hk1 : k0 * (popc S / n) ≤ 1000 * 10 := Nat.mul_le_mul hk (by omega)
  have hmin : (if nI (popc S % n) < nI k0 then nI (popc S % n) else nI k0) = nI (if popc S % n < k0 then popc S % n else k0) := by
    by_cases q : popc S % n < k0
    · rw [if_pos q, if_pos ((nI_ltI (by omega) (by omega)).mpr q)]
    · rw [if_neg q, if_neg (fun z => q ((nI_ltI (by omega) (by omega)).mp z))]
  refine V_iload_n dX8_piece_0 rfl ?_
  refine V_rdS mw_J6_bitCount_0f7a4 ms_X8_169 dX8_piece_1 (ct_bitCount hS) rfl rfl (Nat.le_of_ble_eq_true rfl) (by decide) (by decide) (by decide) (by decide) ?_
  refine V_istore dX8_piece_4 (by decide) ?_
  refine V_iload_n dX8_piece_6 rfl ?_
  refine V_iload dX8_piece_7 rfl ?_
  refine V_iload_n dX8_piece_9 rfl ?_
  refine V_idiv dX8_piece_10 hn0 ?_
  rw [pk_div (by omega) (by omega) (by omega)]
  refine V_imul dX8_piece_11 ?_
  rw [pk_mul]
  refine V_iload_n dX8_piece_12 rfl ?_
  refine V_iload dX8_piece_13 rfl ?_
  refine V_iload_n dX8_piece_15 rfl ?_
  refine V_irem dX8_piece_16 hn0 ?_
  rw [pk_rem (by omega) (by omega) (by omega)]
  refine V_mmin wd_mminL_X8_174 wd_mminS wd_mathI wd_mminC dX8_piece_17 (by decide) (Nat.le_of_ble_eq_true rfl) (by decide) (by decide) ?_
  rw [show (if nI (popc S % n) < nI k0 then nI (popc S % n) else nI k0) = nI (if popc S % n < k0 then popc S % n else k0) from hmin]
  refine V_iadd dX8_piece_20 ?_
  rw [nI_add]
  refine V_istore dX8_piece_21 (by decide) ?_
  refine V_iload dX8_piece_23 rfl ?_
  refine V_iload_n dX8_piece_25 rfl ?_
  refine V_idiv dX8_piece_26 hn0 ?_
  rw [pk_div (by omega) (by omega) (by omega)]
  refine V_iload_n dX8_piece_27 rfl ?_
  refine V_iload dX8_piece_28 rfl ?_
  refine V_iload_n dX8_piece_30 rfl ?_
  refine V_irem dX8_piece_31 hn0 ?_
  rw [pk_rem (by omega) (by omega) (by omega)]
  refine V_icmp_ge 39 dX8_piece_32 (by decide) (fun h32 => ?_) (fun h32 => ?_)
  · skip
    refine V_iconst (v := 0) dX8_piece_39 (by decide) ?_
    refine V_iadd dX8_piece_40 ?_
    have hc := leK (a := popc S % n) (b := k0) (by omega) (by omega) h32
    have e2 : pcM S k0 n = popc S / n + 0 := by rw [pcM, if_neg (by omega)]
    rw [show nI (popc S / n) + (0 : Int32) = nI (pcM S k0 n) from by rw [e2]; exact nI_add (popc S / n) 0]
    refine V_istore dX8_piece_41 (by decide) ?_
    refine V_iconst (v := 0) dX8_piece_43 (by decide) ?_
    refine V_istore dX8_piece_44 (by decide) ?_
    refine V_iconst (v := 0) dX8_piece_46 (by decide) ?_
    refine V_istore dX8_piece_47 (by decide) ?_
    refine V_iconst (v := 0) dX8_piece_49 (by decide) ?_
    refine V_istore dX8_piece_50 (by decide) ?_
    exact lp_X8_piece hw hP hP10 hS (f := pcF S k0 n) (mm := pcM S k0 n) (by unfold pcF; split <;> omega) (by rw [e2]; omega) _ _ _ (nP + 1) 0 _ _ _ (Nat.zero_le _) (by omega) rfl rfl rfl
  · skip
    refine V_iconst (v := 1) dX8_piece_35 (by decide) ?_
    refine V_goto 40 dX8_piece_36 (by decide) ?_
    refine V_iadd dX8_piece_40 ?_
    have hc := nleK (a := popc S % n) (b := k0) (by omega) (by omega) h32
    have e2 : pcM S k0 n = popc S / n + 1 := by rw [pcM, if_pos (by omega)]
    rw [show nI (popc S / n) + (1 : Int32) = nI (pcM S k0 n) from by rw [e2]; exact nI_add (popc S / n) 1]
    refine V_istore dX8_piece_41 (by decide) ?_
    refine V_iconst (v := 0) dX8_piece_43 (by decide) ?_
    refine V_istore dX8_piece_44 (by decide) ?_
    refine V_iconst (v := 0) dX8_piece_46 (by decide) ?_
    refine V_istore dX8_piece_47 (by decide) ?_
    refine V_iconst (v := 0) dX8_piece_49 (by decide) ?_
    refine V_istore dX8_piece_50 (by decide) ?_
    exact lp_X8_piece hw hP hP10 hS (f := pcF S k0 n) (mm := pcM S k0 n) (by unfold pcF; split <;> omega) (by rw [e2]; omega) _ _ _ (nP + 1) 0 _ _ _ (Nat.zero_le _) (by omega) rfl rfl rfl
set_option maxHeartbeats 4000000 in
set_option maxRecDepth 20000 in
theorem in_done {Po : Option Value → va_W → Prop} {z1 z3 : Option Value} {n S2 c2 S : Nat} (hS2 : S2 < 1024) (hw : WF E ad el (setM g S c2) w0 ws) (x : Int32) (z6 : Option Value) (K : ∀ (ws : va_W) (x5 : Int32) (z6 : Option Value), WF E ad el (setM g S c2) w0 ws → V E yX8_blames cX8_blames 7 none 4 0 0 Po 100 [some (.ref (ad 25)), z1, some (.int (nI n)), z3, some (.int (nI S2)), some (.int x5), z6] [] ws 0 0) : V E yX8_blames cX8_blames 7 none 4 0 0 Po 49 [some (.ref (ad 25)), z1, some (.int (nI n)), z3, some (.int (nI S2)), some (.int x), z6] [] ws 0 0 := by
  refine V_iload dX8_blames_49 rfl ?_
  refine V_iload_n dX8_blames_51 rfl ?_
  refine V_icmp_ge 100 dX8_blames_52 (by decide) (fun h52 => ?_) (fun h52 => ?_)
  · skip
    exact K _ _ _ hw
  · skip
    refine V_iload dX8_blames_55 rfl ?_
    refine V_iconst (v := -1) dX8_blames_57 (by decide) ?_
    refine V_icmp_ne 100 dX8_blames_58 (by decide) (fun h58 => ?_) (fun h58 => absurd h58 (nI_ne_m1 (by omega)))
    exact K _ _ _ hw
set_option maxHeartbeats 4000000 in
set_option maxRecDepth 20000 in
theorem lp_in {nP : Nat} (hP : g 25 19 = nI nP) (hP10 : nP ≤ 10) {nT : Nat} (hT : g 25 21 = nI nT) (hT12 : nT ≤ 12) {S n : Nat} (hS : S < 1024) (hn1 : 1 ≤ n) (hn : n ≤ 1000) {Po : Option Value → va_W → Prop} {z1 z3 : Option Value} {c0 : Nat} (K : ∀ (ws : va_W) (x5 : Int32) (z6 : Option Value), WF E ad el (setM g S (mwpL g nT nP S n n 0 c0).2) w0 ws → V E yX8_blames cX8_blames 7 none 4 0 0 Po 100 [some (.ref (ad 25)), z1, some (.int (nI n)), z3, some (.int (sI (mwpL g nT nP S n n 0 c0).1)), some (.int x5), z6] [] ws 0 0) : ∀ (k i : Nat) (x : Int32) (c : Nat) (z6 : Option Value) (ws : va_W), i ≤ n → n < i + k → x = nI i → mwpL g nT nP S n n 0 c0 = mwpL g nT nP S n (n - i) i c → WF E ad el (setM g S c) w0 ws → V E yX8_blames cX8_blames 7 none 4 0 0 Po 49 [some (.ref (ad 25)), z1, some (.int (nI n)), z3, some (.int (-1)), some (.int x), z6] [] ws 0 0 := by
  intro k
  induction k with
  | zero => intro i x c z6 ws h1 h2; exact absurd h2 (by omega)
  | succ k ih =>
    intro i x c z6 ws hil hin hx hinv hw
    subst hx
    refine V_iload dX8_blames_49 rfl ?_
    refine V_iload_n dX8_blames_51 rfl ?_
    refine V_icmp_ge 100 dX8_blames_52 (by decide) (fun h52 => ?_) (fun h52 => ?_)
    · skip
      have hi : i = n := by have := leK (a := n) (b := i) (by omega) (by omega) h52; omega
      subst hi
      rw [Nat.sub_self] at hinv
      have e1 : (mwpL g nT nP S i i 0 c0) = (none, c) := hinv
      rw [e1] at K
      exact K _ _ _ hw
    · skip
      refine V_iload dX8_blames_55 rfl ?_
      refine V_iconst (v := -1) dX8_blames_57 (by decide) ?_
      refine V_icmp_ne 100 dX8_blames_58 (by decide) (fun h58 => absurd rfl h58) (fun h58 => ?_)
      have hi := nleK (a := n) (b := i) (by omega) (by omega) h52
      refine V_aload_n dX8_blames_61 rfl ?_
      refine V_get (25) fl_X8_179 dX8_blames_62 hw.p25 rfl ?_
      refine V_aload_n dX8_blames_65 rfl ?_
      refine V_aload_n dX8_blames_66 rfl ?_
      refine V_get (25) fl_X8_179 dX8_blames_67 hw.p25 rfl ?_
      refine V_iload dX8_blames_70 rfl ?_
      refine V_iload_n dX8_blames_72 rfl ?_
      rw [show setM g S c 25 31 = nI S from rfl]
      refine V_rdV (25) mw_X8_piece mv_X8_185 dX8_blames_73 (ct_X8_piece (g := setM g S c) hw hP hP10 hS hn1 hn (by omega)) hw.p25 rfl rfl rfl (Nat.le_of_ble_eq_true rfl) (by decide) (by decide) (by decide) (by decide) ?_
      refine V_iconst (v := -1) dX8_blames_76 (by decide) ?_
      refine V_ixor dX8_blames_77 ?_
      refine V_iand dX8_blames_78 ?_
      rw [nx_dif]
      refine V_istore dX8_blames_79 (by decide) ?_
      refine V_aload_n dX8_blames_81 rfl ?_
      refine V_iload dX8_blames_82 rfl ?_
      refine V_callV (25) mw_X8_isRed mv_X8_182 dX8_blames_84 (ct_X8_isRed hw.1 hT hT12 (dif S (mPiece nP S i n))) hw.p25 rfl rfl rfl (Nat.le_of_ble_eq_true rfl) (by decide) (by decide) (by decide) (by decide) (fun r84 ws1 hp84 => ?_)
      obtain ⟨rfl, hw1⟩ := hp84
      have hw1 := hw.trans hw1
      refine V_if_eq 94 dX8_blames_87 (by decide) (fun h87 => ?_) (fun h87 => ?_)
      · skip
        refine V_iinc dX8_blames_94 rfl rfl (by decide) ?_
        refine V_goto 49 dX8_blames_97 (by decide) ?_
        have e := bI_0 h87
        exact ih (i + 1) _ _ _ _ (by omega) (by omega) (nI_1 i) (by rw [hinv, show n - i = (n - (i + 1)) + 1 by omega, mwpL, if_neg (nb e)]) hw1
      · skip
        refine V_iload dX8_blames_90 rfl ?_
        refine V_istore dX8_blames_92 (by decide) ?_
        refine V_iinc dX8_blames_94 rfl rfl (by decide) ?_
        refine V_goto 49 dX8_blames_97 (by decide) ?_
        have e := bI_1 h87
        have e1 : mwpL g nT nP S n n 0 c0 = (some (dif S (mPiece nP S i n)), c + 1) := by rw [hinv, show n - i = (n - (i + 1)) + 1 by omega, mwpL, if_pos e]
        rw [e1] at K
        exact in_done (dif_lt hS) hw1 _ _ K
set_option maxHeartbeats 4000000 in
set_option maxRecDepth 20000 in
theorem bl_tail {R : Nat × Nat} {S n : Nat} (hS : S < 1024) (hn1 : 1 ≤ n) (hn : n ≤ 1000) {o : Option Nat} {c2 : Nat} (ho2 : ∀ S2, o = some S2 → S2 < 1024) {z1 z3 z6 : Option Value} (x5 : Int32) (hw : WF E ad el (setM g S c2) w0 ws)
    (K0 : o = none → ∀ (xn xm : Int32) (z4 z5 z6 : Option Value) (ws : va_W), xn = nI (if popc S < n * 2 then popc S else n * 2) → xm = bI (!decide (popc S ≤ n)) → WF E ad el (setM g S c2) w0 ws → V E yX8_blames cX8_blames 7 none 4 0 0 (fun r w => r = none ∧ WF E ad el (setM g R.1 R.2) w0 w) 28 [some (.ref (ad 25)), z1, some (.int xn), some (.int xm), z4, z5, z6] [] ws 0 0)
    (K1 : ∀ S2, o = some S2 → ∀ (xn : Int32) (z4 z5 z6 : Option Value) (ws : va_W), xn = nI (if n - 1 < 2 then 2 else n - 1) → WF E ad el (setM g S2 c2) w0 ws → V E yX8_blames cX8_blames 7 none 4 0 0 (fun r w => r = none ∧ WF E ad el (setM g R.1 R.2) w0 w) 28 [some (.ref (ad 25)), z1, some (.int xn), z3, z4, z5, z6] [] ws 0 0) : V E yX8_blames cX8_blames 7 none 4 0 0 (fun r w => r = none ∧ WF E ad el (setM g R.1 R.2) w0 w) 100 [some (.ref (ad 25)), z1, some (.int (nI n)), z3, some (.int (sI o)), some (.int x5), z6] [] ws 0 0 := by
  refine V_aload_n dX8_blames_100 rfl ?_
  refine V_get (25) fl_X8_179 dX8_blames_101 hw.p25 rfl ?_
  rw [show setM g S c2 25 31 = nI S from rfl]
  refine V_rdS mw_J6_bitCount_0f7a4 ms_X8_169 dX8_blames_104 (ct_bitCount hS) rfl rfl (Nat.le_of_ble_eq_true rfl) (by decide) (by decide) (by decide) (by decide) ?_
  refine V_istore dX8_blames_107 (by decide) ?_
  refine V_iload dX8_blames_109 rfl ?_
  refine V_iconst (v := -1) dX8_blames_111 (by decide) ?_
  refine V_icmp_eq 132 dX8_blames_112 (by decide) (fun h112 => ?_) (fun h112 => ?_)
  · skip
    refine V_iload_n dX8_blames_132 rfl ?_
    refine V_iload dX8_blames_133 rfl ?_
    refine V_icmp_ge 142 dX8_blames_135 (by decide) (fun h135 => ?_) (fun h135 => ?_)
    · skip
      refine V_iconst (v := 0) dX8_blames_142 (by decide) ?_
      refine V_istore_n dX8_blames_143 (by decide) ?_
      refine V_iconst (v := 2) dX8_blames_144 (by decide) ?_
      refine V_iload_n dX8_blames_145 rfl ?_
      refine V_imul dX8_blames_146 ?_
      refine V_iload dX8_blames_147 rfl ?_
      refine V_mmin wd_mminL_X8_174 wd_mminS wd_mathI wd_mminC dX8_blames_149 (by decide) (Nat.le_of_ble_eq_true rfl) (by decide) (by decide) ?_
      refine V_istore_n dX8_blames_152 (by decide) ?_
      refine V_goto 28 dX8_blames_153 (by decide) ?_
      have ho : o = none := by
        cases o with
        | none => rfl
        | some S2 => exact absurd h112 (nI_ne_m1 (by have := ho2 S2 rfl; omega))
      subst ho
      have hpop := popc_le S hS
      refine K0 rfl _ _ _ _ _ _ ?_ (by rw [decide_eq_true (by have := leK (a := popc S) (b := n) (by omega) (by omega) h135; omega)]; rfl) hw
      rw [show (2 : Int32) * nI n = nI (n * 2) from by rw [Nat.mul_comm]; exact pk_mul 2 n]
      by_cases q : popc S < n * 2
      · rw [if_pos q, if_pos ((nI_ltI (by omega) (by omega)).mpr q)]
      · rw [if_neg q, if_neg (fun z => q ((nI_ltI (by omega) (by omega)).mp z))]
    · skip
      refine V_iconst (v := 1) dX8_blames_138 (by decide) ?_
      refine V_goto 143 dX8_blames_139 (by decide) ?_
      refine V_istore_n dX8_blames_143 (by decide) ?_
      refine V_iconst (v := 2) dX8_blames_144 (by decide) ?_
      refine V_iload_n dX8_blames_145 rfl ?_
      refine V_imul dX8_blames_146 ?_
      refine V_iload dX8_blames_147 rfl ?_
      refine V_mmin wd_mminL_X8_174 wd_mminS wd_mathI wd_mminC dX8_blames_149 (by decide) (Nat.le_of_ble_eq_true rfl) (by decide) (by decide) ?_
      refine V_istore_n dX8_blames_152 (by decide) ?_
      refine V_goto 28 dX8_blames_153 (by decide) ?_
      have ho : o = none := by
        cases o with
        | none => rfl
        | some S2 => exact absurd h112 (nI_ne_m1 (by have := ho2 S2 rfl; omega))
      subst ho
      have hpop := popc_le S hS
      refine K0 rfl _ _ _ _ _ _ ?_ (by rw [decide_eq_false (by have := nleK (a := popc S) (b := n) (by omega) (by omega) h135; omega)]; rfl) hw
      rw [show (2 : Int32) * nI n = nI (n * 2) from by rw [Nat.mul_comm]; exact pk_mul 2 n]
      by_cases q : popc S < n * 2
      · rw [if_pos q, if_pos ((nI_ltI (by omega) (by omega)).mpr q)]
      · rw [if_neg q, if_neg (fun z => q ((nI_ltI (by omega) (by omega)).mp z))]
  · skip
    refine V_aload_n dX8_blames_115 rfl ?_
    refine V_iload dX8_blames_116 rfl ?_
    refine W_put (25) hw (by decide) fp_X8_179 dX8_blames_118 rfl rfl rfl rfl (Nat.le_of_ble_eq_true rfl) (fun ws1 hw1 => ?_)
    refine V_iconst (v := 2) dX8_blames_121 (by decide) ?_
    refine V_iload_n dX8_blames_122 rfl ?_
    refine V_iconst (v := 1) dX8_blames_123 (by decide) ?_
    refine V_isub dX8_blames_124 ?_
    refine V_mmax wd_mmaxL_X8_189 wd_mmaxS wd_mathI wd_mmaxC dX8_blames_125 (by decide) (Nat.le_of_ble_eq_true rfl) (by decide) (by decide) ?_
    refine V_istore_n dX8_blames_128 (by decide) ?_
    refine V_goto 153 dX8_blames_129 (by decide) ?_
    refine V_goto 28 dX8_blames_153 (by decide) ?_
    obtain ⟨S2, rfl⟩ : ∃ S2, o = some S2 := by
      cases o with
      | none => exact absurd rfl h112
      | some S2 => exact ⟨S2, rfl⟩
    rw [setM_S g S c2 S2 (sI (some S2)) rfl] at hw1
    refine K1 S2 rfl _ _ _ _ _ ?_ hw1
    rw [show nI n - (1 : Int32) = nI (n - 1) from pk_sub (a := n) (b := 1) hn1]
    by_cases q : n - 1 < 2
    · rw [if_pos q]
      by_cases q2 : (2 : Int32) < nI (n - 1)
      · exact absurd (ltK (a := 2) (b := n - 1) (by decide) (by omega) q2) (by omega)
      · rw [if_neg q2]; rfl
    · rw [if_neg q]
      by_cases q2 : (2 : Int32) < nI (n - 1)
      · rw [if_pos q2]
      · rw [if_neg q2]
        have := nltK (a := 2) (b := n - 1) (by decide) (by omega) q2
        rw [show n - 1 = 2 by omega]
        rfl
set_option maxHeartbeats 4000000 in
set_option maxRecDepth 20000 in
theorem lp_out {nP : Nat} (hP : g 25 19 = nI nP) (hP10 : nP ≤ 10) {nT : Nat} (hT : g 25 21 = nI nT) (hT12 : nT ≤ 12) {R : Nat × Nat} {z1 : Option Value} : ∀ (K : Nat) (xn xm : Int32) (n : Nat) (ov : Bool) (S c : Nat) (z4 z5 z6 : Option Value) (ws : va_W), xn = nI n → xm = bI (!ov) → S < 1024 → 1 ≤ n → n ≤ 1000 → mStp g nT nP K S n ov c → R = mfoL g nT nP K S n ov c → WF E ad el (setM g S c) w0 ws → V E yX8_blames cX8_blames 7 none 4 0 0 (fun r w => r = none ∧ WF E ad el (setM g R.1 R.2) w0 w) 28 [some (.ref (ad 25)), z1, some (.int xn), some (.int xm), z4, z5, z6] [] ws 0 0 := by
  intro K
  induction K using Nat.strongRecOn with
  | _ K ih =>
  intro xn xm n ov S c z4 z5 z6 ws hxn hxm hS hn1 hn hstp hinv hw
  subst hxn hxm
  refine V_iload_n dX8_blames_28 rfl ?_
  refine V_if_eq 156 dX8_blames_29 (by decide) (fun h29 => ?_) (fun h29 => ?_)
  · skip
    refine V_vret dX8_blames_156 rfl (by decide) (by decide) ?_
    have e : ov = true := by cases ov with
      | true => rfl
      | false => exact absurd h29 (by decide)
    exact ⟨rfl, by rw [hinv]; cases K with
      | zero => exact hw
      | succ K => rw [mfoL, if_pos e]; exact hw⟩
  · skip
    refine V_aload_n dX8_blames_32 rfl ?_
    refine V_get (25) fl_X8_179 dX8_blames_33 hw.p25 rfl ?_
    rw [show setM g S c 25 31 = nI S from rfl]
    refine V_rdS mw_J6_bitCount_0f7a4 ms_X8_169 dX8_blames_36 (ct_bitCount hS) rfl rfl (Nat.le_of_ble_eq_true rfl) (by decide) (by decide) (by decide) (by decide) ?_
    refine V_iconst (v := 1) dX8_blames_39 (by decide) ?_
    refine V_icmp_le 156 dX8_blames_40 (by decide) (fun h40 => ?_) (fun h40 => ?_)
    · skip
      refine V_vret dX8_blames_156 rfl (by decide) (by decide) ?_
      have hp1 := leK (a := popc S) (b := 1) (by have := popc_le S hS; omega) (by decide) h40
      exact ⟨rfl, by rw [hinv]; cases K with
        | zero => exact hw
        | succ K => rw [mfoL]; split
                    · exact hw
                    · first | exact hw | (rw [if_pos hp1]; exact hw)⟩
    · skip
      have hp1 := nleK (a := popc S) (b := 1) (by have := popc_le S hS; omega) (by decide) h40
      have e : ov = false := by cases ov with
        | false => rfl
        | true => exact absurd rfl h29
      refine V_iconst (v := -1) dX8_blames_43 (by decide) ?_
      refine V_istore dX8_blames_44 (by decide) ?_
      refine V_iconst (v := 0) dX8_blames_46 (by decide) ?_
      refine V_istore dX8_blames_47 (by decide) ?_
      cases K with
      | zero =>
        rcases hstp with q | q
        · rw [e] at q; exact absurd q (by decide)
        · omega
      | succ K =>
        have hstp2 : match mwpL g nT nP S n n 0 c with
          | (some S2, c2) => mStp g nT nP K S2 (if n - 1 < 2 then 2 else n - 1) false c2
          | (none, c2) => mStp g nT nP K S (if popc S < n * 2 then popc S else n * 2) (decide (popc S ≤ n)) c2 := by
          rcases hstp with q | q | q
          · rw [e] at q; exact absurd q (by decide)
          · omega
          · exact q
        have hinv2 : R = match mwpL g nT nP S n n 0 c with
          | (some S2, c2) => mfoL g nT nP K S2 (if n - 1 < 2 then 2 else n - 1) false c2
          | (none, c2) => mfoL g nT nP K S (if popc S < n * 2 then popc S else n * 2) (decide (popc S ≤ n)) c2 := by
          rw [hinv, mfoL, if_neg (nb e), if_neg (by omega)]
        have hlt := mwpL_lt (g := g) (nT := nT) (nP := nP) (n := n) hS n 0 c
        have hpop := popc_le S hS
        refine lp_in hP hP10 hT hT12 hS hn1 hn (c0 := c) ?_ (n + 1) 0 _ c _ _ (Nat.zero_le _) (by omega) rfl rfl hw
        generalize mwpL g nT nP S n n 0 c = wp at hstp2 hinv2 hlt
        obtain ⟨o, c2⟩ := wp
        intro ws x5 z6 hw
        refine bl_tail hS hn1 hn hlt x5 hw ?_ ?_
        · intro ho xn xm z4 z5 z6 ws hxn hxm hw
          subst ho
          exact ih K (by omega) _ _ _ _ _ _ _ _ _ _ hxn hxm hS (by split <;> omega) (by split <;> omega) hstp2 hinv2 hw
        · intro S2 ho xn z4 z5 z6 ws hxn hw
          subst ho
          exact ih K (by omega) _ _ _ false _ _ _ _ _ _ hxn (by rw [e]) (hlt S2 rfl) (by split <;> omega) (by split <;> omega) hstp2 hinv2 hw
set_option maxHeartbeats 4000000 in
set_option maxRecDepth 20000 in
theorem ct_X8_blames (hw : Wd E ad el g ws) {nP : Nat} (hP : g 25 19 = nI nP) (hP10 : nP ≤ 10) {nT : Nat} (hT : g 25 21 = nI nT) (hT12 : nT ≤ 12) {S : Nat} (hS : S < 1024) (hstp : mRedB g nT S = true → mStp g nT nP 1000 S 2 false 1) : Ct E yX8_blames cX8_blames 7 none 4 0 0 [.ref (ad 25), .int (nI S)] ws (fun r w => r = none ∧ WF E ad el (setM g (mHunt g nT nP S).1 (mHunt g nT nP S).2) ws w) := by
  refine Ct_of mw_X8_blames rfl (Nat.le_of_ble_eq_true rfl) ?_
  have hw := WF.rf hw
  refine V_aload_n dX8_blames_0 rfl ?_
  refine V_iconst (v := 0) dX8_blames_1 (by decide) ?_
  refine W_put (25) hw (by decide) fp_X8_166 dX8_blames_2 rfl rfl rfl rfl (Nat.le_of_ble_eq_true rfl) (fun ws1 hw1 => ?_)
  refine V_aload_n dX8_blames_5 rfl ?_
  refine V_iconst (v := 0) dX8_blames_6 (by decide) ?_
  refine W_put (25) hw1 (by decide) fp_X8_179 dX8_blames_7 rfl rfl rfl rfl (Nat.le_of_ble_eq_true rfl) (fun ws2 hw2 => ?_)
  have hw2 : WF E ad el (setM g 0 0) ws ws2 := by
    have e : va_up (va_up g 25 (upd (g 25) 32 0)) 25 (upd (upd (g 25) 32 0) 31 0) = setM g 0 0 := by
      rw [va_up_up, upd_sw _ (show (32 : Nat) ≠ 31 by decide)]
      rfl
    rw [← e]
    exact hw2
  refine V_aload_n dX8_blames_10 rfl ?_
  refine V_iload_n dX8_blames_11 rfl ?_
  refine V_callV (25) mw_X8_isRed mv_X8_182 dX8_blames_12 (ct_X8_isRed hw2.1 hT hT12 S) hw2.p25 rfl rfl rfl (Nat.le_of_ble_eq_true rfl) (by decide) (by decide) (by decide) (by decide) (fun r12 ws3 hp12 => ?_)
  obtain ⟨rfl, hw3⟩ := hp12
  have hw3 := hw2.trans hw3
  refine V_if_ne 19 dX8_blames_15 (by decide) (fun h15 => ?_) (fun h15 => ?_)
  · skip
    refine V_aload_n dX8_blames_19 rfl ?_
    refine V_iload_n dX8_blames_20 rfl ?_
    refine W_put (25) hw3 (by decide) fp_X8_179 dX8_blames_21 rfl rfl rfl rfl (Nat.le_of_ble_eq_true rfl) (fun ws4 hw4 => ?_)
    rw [setM_S g 0 (0 + 1) S (nI S) rfl] at hw4
    refine V_iconst (v := 2) dX8_blames_24 (by decide) ?_
    refine V_istore_n dX8_blames_25 (by decide) ?_
    refine V_iconst (v := 1) dX8_blames_26 (by decide) ?_
    refine V_istore_n dX8_blames_27 (by decide) ?_
    have e := bI_1 h15
    exact lp_out hP hP10 hT hT12 1000 _ _ 2 false S 1 _ _ _ _ rfl rfl hS (by decide) (by decide) (hstp e) (by rw [mHunt, if_pos e]) hw4
  · skip
    refine V_vret dX8_blames_18 rfl (by decide) (by decide) ?_
    have e := bI_0 h15
    exact ⟨rfl, by rw [mHunt, if_neg (nb e)]; exact hw3⟩
set_option maxHeartbeats 4000000 in
set_option maxRecDepth 20000 in
theorem ct_X8_blame (hw : Wd E ad el g ws) {nP : Nat} (hP : g 25 19 = nI nP) (hP10 : nP ≤ 10) {nT : Nat} (hT : g 25 21 = nI nT) (hT12 : nT ≤ 12) (hstp0 : ∀ S, S < 2 ^ nP → mRedB (T0 g) nT S = true → mStp (T0 g) nT nP 1000 S 2 false 1) (set : Int32) : Ct E yX8_blame cX8_blame 2 (some (.int)) 5 0 0 [.ref (ad 25), .int set] ws (fun r w => r = some (.int (mBlame (T0 g) nT nP set).1) ∧ WF E ad el (mBlame (T0 g) nT nP set).2 ws w) := by
  refine Ct_of mw_X8_blame rfl (Nat.le_of_ble_eq_true rfl) ?_
  have hw := WF.rf hw
  have hstT : ∀ S, S < 2 ^ nP → mRedB (T0 g) nT S = true → mStp (T0 g) nT nP 1000 S 2 false 1 := hstp0
  have hfo : mSetB (T0 g) set = true → ∀ {w : va_W}, Wd E ad el (T0 g) w → Ct E yX8_blames cX8_blames 7 none 4 0 0 [.ref (ad 25), .int set] w (fun r w9 => r = none ∧ WF E ad el (setM (T0 g) (mHunt (T0 g) nT nP set.toNatClampNeg).1 (mHunt (T0 g) nT nP set.toNatClampNeg).2) w w9) := by
    intro h w hw
    obtain ⟨S, hS, rfl⟩ := mSetB_set (g := T0 g) hP hP10 h
    have hS2 : S < 1024 := Nat.lt_of_lt_of_le hS (Nat.pow_le_pow_right (by decide) hP10)
    rw [nI_clamp (by omega)]
    exact ct_X8_blames (g := T0 g) hw hP hP10 hT hT12 hS2 (hstT S hS)
  refine V_aload_n dX8_blame_0 rfl ?_
  refine V_iconst (v := 0) dX8_blame_1 (by decide) ?_
  refine W_put (25) hw (by decide) fp_X8_71 dX8_blame_2 rfl rfl rfl rfl (Nat.le_of_ble_eq_true rfl) (fun ws1 hw1 => ?_)
  have hw1 : WF E ad el (T0 g) ws ws1 := hw1
  refine V_aload_n dX8_blame_5 rfl ?_
  refine V_iload_n dX8_blame_6 rfl ?_
  refine V_rdV (25) mw_X8_isSet mv_X8_103 dX8_blame_7 (ct_X8_isSet hw1 set) hw1.p25 rfl rfl rfl (Nat.le_of_ble_eq_true rfl) (by decide) (by decide) (by decide) (by decide) ?_
  refine V_if_ne 15 dX8_blame_10 (by decide) (fun h10 => ?_) (fun h10 => ?_)
  · skip
    refine V_aload_n dX8_blame_15 rfl ?_
    refine V_iload_n dX8_blame_16 rfl ?_
    refine V_callV (25) mw_X8_blames mv_X8_192 dX8_blame_17 (hfo (bI_1 h10) hw1.1) hw1.p25 rfl rfl rfl (Nat.le_of_ble_eq_true rfl) (by decide) (by decide) (by decide) (by decide) (fun r17 ws2 hp17 => ?_)
    obtain ⟨rfl, hw2⟩ := hp17
    have hw2 := hw1.trans hw2
    refine V_aload_n dX8_blame_20 rfl ?_
    refine V_get (25) fl_X8_179 dX8_blame_21 hw2.p25 rfl ?_
    refine V_iret dX8_blame_24 rfl (by decide) (by decide) ?_
    exact fin2 (by rw [mBlame, if_pos (bI_1 h10)]; rfl) hw2
  · skip
    refine V_iconst (v := -1) dX8_blame_13 (by decide) ?_
    refine V_iret dX8_blame_14 rfl (by decide) (by decide) ?_
    exact fin2 (by rw [mBlame, if_neg (nb (bI_0 h10))]; try rfl) hw1
set_option maxHeartbeats 4000000 in
set_option maxRecDepth 20000 in
theorem ct_X8_runs (hw : Wd E ad el g ws) {nP : Nat} (hP : g 25 19 = nI nP) (hP10 : nP ≤ 10) {nT : Nat} (hT : g 25 21 = nI nT) (hT12 : nT ≤ 12) (hstp0 : ∀ S, S < 2 ^ nP → mRedB (T0 g) nT S = true → mStp (T0 g) nT nP 1000 S 2 false 1) (set : Int32) : Ct E yX8_runs cX8_runs 2 (some (.int)) 5 0 0 [.ref (ad 25), .int set] ws (fun r w => r = some (.int (mRuns (T0 g) nT nP set).1) ∧ WF E ad el (mRuns (T0 g) nT nP set).2 ws w) := by
  refine Ct_of mw_X8_runs rfl (Nat.le_of_ble_eq_true rfl) ?_
  have hw := WF.rf hw
  have hstT : ∀ S, S < 2 ^ nP → mRedB (T0 g) nT S = true → mStp (T0 g) nT nP 1000 S 2 false 1 := hstp0
  have hfo : mSetB (T0 g) set = true → ∀ {w : va_W}, Wd E ad el (T0 g) w → Ct E yX8_blames cX8_blames 7 none 4 0 0 [.ref (ad 25), .int set] w (fun r w9 => r = none ∧ WF E ad el (setM (T0 g) (mHunt (T0 g) nT nP set.toNatClampNeg).1 (mHunt (T0 g) nT nP set.toNatClampNeg).2) w w9) := by
    intro h w hw
    obtain ⟨S, hS, rfl⟩ := mSetB_set (g := T0 g) hP hP10 h
    have hS2 : S < 1024 := Nat.lt_of_lt_of_le hS (Nat.pow_le_pow_right (by decide) hP10)
    rw [nI_clamp (by omega)]
    exact ct_X8_blames (g := T0 g) hw hP hP10 hT hT12 hS2 (hstT S hS)
  refine V_aload_n dX8_runs_0 rfl ?_
  refine V_iconst (v := 0) dX8_runs_1 (by decide) ?_
  refine W_put (25) hw (by decide) fp_X8_71 dX8_runs_2 rfl rfl rfl rfl (Nat.le_of_ble_eq_true rfl) (fun ws1 hw1 => ?_)
  have hw1 : WF E ad el (T0 g) ws ws1 := hw1
  refine V_aload_n dX8_runs_5 rfl ?_
  refine V_iload_n dX8_runs_6 rfl ?_
  refine V_rdV (25) mw_X8_isSet mv_X8_103 dX8_runs_7 (ct_X8_isSet hw1 set) hw1.p25 rfl rfl rfl (Nat.le_of_ble_eq_true rfl) (by decide) (by decide) (by decide) (by decide) ?_
  refine V_if_ne 15 dX8_runs_10 (by decide) (fun h10 => ?_) (fun h10 => ?_)
  · skip
    refine V_aload_n dX8_runs_15 rfl ?_
    refine V_iload_n dX8_runs_16 rfl ?_
    refine V_callV (25) mw_X8_blames mv_X8_192 dX8_runs_17 (hfo (bI_1 h10) hw1.1) hw1.p25 rfl rfl rfl (Nat.le_of_ble_eq_true rfl) (by decide) (by decide) (by decide) (by decide) (fun r17 ws2 hp17 => ?_)
    obtain ⟨rfl, hw2⟩ := hp17
    have hw2 := hw1.trans hw2
    refine V_aload_n dX8_runs_20 rfl ?_
    refine V_get (25) fl_X8_166 dX8_runs_21 hw2.p25 rfl ?_
    refine V_iret dX8_runs_24 rfl (by decide) (by decide) ?_
    exact fin2 (by rw [mRuns, if_pos (bI_1 h10)]; rfl) hw2
  · skip
    refine V_iconst (v := -1) dX8_runs_13 (by decide) ?_
    refine V_iret dX8_runs_14 rfl (by decide) (by decide) ?_
    exact fin2 (by rw [mRuns, if_neg (nb (bI_0 h10))]; try rfl) hw1
end MD4
