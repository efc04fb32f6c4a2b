/-! ===== Hunt (20) ===== -/
/-- a set without another -/
def dif (a b : Nat) : Nat := a ^^^ (a &&& b)
theorem nx_dif (a b : Nat) : nI a &&& (nI b ^^^ -1) = nI (dif a b) := by
  apply Int32.toBitVec_inj.1
  show BitVec.ofNat 32 a &&& (BitVec.ofNat 32 b ^^^ BitVec.allOnes 32) = BitVec.ofNat 32 (a ^^^ (a &&& b))
  apply BitVec.eq_of_getLsbD_eq
  intro i hi
  simp only [BitVec.getLsbD_and, BitVec.getLsbD_xor, BitVec.getLsbD_ofNat, BitVec.getLsbD_allOnes, Nat.testBit_xor, Nat.testBit_and, hi, decide_true, Bool.true_and]
  cases a.testBit i <;> cases b.testBit i <;> rfl
theorem dif_lt {a b : Nat} (ha : a < 1024) : dif a b < 1024 := Nat.xor_lt_two_pow (n := 10) ha (Nat.lt_of_le_of_lt Nat.and_le_left ha)
theorem dif_bit (a b i : Nat) : (dif a b).testBit i = (a.testBit i && !b.testBit i) := by
  unfold dif
  rw [Nat.testBit_xor, Nat.testBit_and]
  cases a.testBit i <;> cases b.testBit i <;> rfl
/-- a set without its lowest part -/
def dropLow (S : Nat) : Nat := S &&& (S - 1)
theorem dropLow_I : ∀ S, S < 1024 → nI S &&& (lowI (nI S) ^^^ -1) = nI (dropLow S) := by decide +kernel
theorem dropLow_lt {S : Nat} (h : S < 1024) : dropLow S < 1024 := Nat.lt_of_le_of_lt Nat.and_le_left h
def wl : Nat → Nat → Nat
  | 0, S => S
  | k + 1, S => wl k (dropLow S)
theorem wl_lt : ∀ (k : Nat) {S : Nat}, S < 1024 → wl k S < 1024
  | 0, _, h => h
  | k + 1, _, h => wl_lt k (dropLow_lt h)
/-- is a set red -/
def redB (g : Nat → Nat → Int32) (nT S : Nat) : Bool := !decide (fi (pRed (g 17) (nI S)) nT 0 = -1)
/-- piece by piece from piece i on, R the parts that are left: what is red without a piece, and how many runs -/
def wpL (g : Nat → Nat → Int32) (nT S n : Nat) : Nat → Nat → Nat → Nat → Option Nat × Nat
  | 0, _, _, c => (none, c)
  | k + 1, i, R, c => if redB g nT (dif S (dif R (wl (popc S / n + if i < popc S % n then 1 else 0) R))) = true then (some (dif S (dif R (wl (popc S / n + if i < popc S % n then 1 else 0) R))), c + 1)
    else wpL g nT S n k (i + 1) (wl (popc S / n + if i < popc S % n then 1 else 0) R) (c + 1)
/-- the hunt: x, the number of pieces, over, the runs -/
def foL (g : Nat → Nat → Int32) (nT : Nat) : Nat → Nat → Nat → Bool → Nat → Nat × Nat
  | 0, S, _, _, c => (S, c)
  | k + 1, S, n, ov, c => if ov = true then (S, c) else if popc S ≤ 1 then (S, c) else
    match wpL g nT S n n 0 S c with
    | (some S2, c2) => foL g nT k S2 (if n - 1 < 2 then 2 else n - 1) false c2
    | (none, c2) => foL g nT k S (if popc S < n * 2 then popc S else n * 2) (decide (popc S ≤ n)) c2
def hunt (g : Nat → Nat → Int32) (nT S : Nat) : Nat × Nat := if redB g nT S = true then foL g nT 1000 S 2 false 1 else (0, 1)
def setH (g : Nat → Nat → Int32) (S c : Nat) : Nat → Nat → Int32 := va_up g 20 (upd (upd (g 20) 0 (nI S)) 1 (nI c))
theorem setH_c (g : Nat → Nat → Int32) (S c c2 : Nat) (x : Int32) (hx : x = nI c2) : va_up (setH g S c) 20 (upd ((setH g S c) 20) 1 x) = setH g S c2 := by
  subst hx
  show va_up (va_up g 20 _) 20 (upd (upd (upd (g 20) 0 (nI S)) 1 (nI c)) 1 (nI c2)) = _
  rw [upd_upd, va_up_up]
  rfl
theorem setH_S (g : Nat → Nat → Int32) (S c S2 : Nat) (x : Int32) (hx : x = nI S2) : va_up (setH g S c) 20 (upd ((setH g S c) 20) 0 x) = setH g S2 c := by
  subst hx
  show va_up (va_up g 20 _) 20 (upd (upd (upd (g 20) 0 (nI S)) 1 (nI c)) 0 (nI S2)) = _
  rw [va_up_up]
  unfold setH
  congr 1
  funext j
  unfold upd
  by_cases h0 : j = 0
  · subst h0; simp
  · by_cases h1 : j = 1
    · subst h1; simp
    · simp [h0, h1]
section HNT
variable {E : VE} {ad : Nat → Nat} {el : Nat} {g : Nat → Nat → Int32} {w0 ws : va_W} {nT : Nat}
set_option maxHeartbeats 4000000 in
set_option maxRecDepth 20000 in
theorem ct_X0_isRed {x c : Nat} (hw : Wd E ad el (setH g x c) ws) (hT : g 16 1 = nI nT) (hT12 : nT ≤ 12) (S : Nat) : Ct E yX0_isRed cX0_isRed 3 (some (.boolean)) 1 0 0 [.ref (ad 20), .ref (ad 16), .int (nI S)] ws (fun r w => r = some (.int (bI (redB g nT S))) ∧ WF E ad el (setH g x (c + 1)) ws w) := by
  refine Ct_of mw_X0_isRed rfl (Nat.le_of_ble_eq_true rfl) ?_
  have hw := WF.rf hw
  refine V_aload_n dX0_isRed_0 rfl ?_
  refine V_dup dX0_isRed_1 rfl ?_
  refine V_get (20) fl_X0_9 dX0_isRed_2 hw.p20 rfl ?_
  refine V_iconst (v := 1) dX0_isRed_5 (by decide) ?_
  refine V_iadd dX0_isRed_6 ?_
  refine W_put (20) hw (by decide) fp_X0_9 dX0_isRed_7 rfl rfl rfl rfl (Nat.le_of_ble_eq_true rfl) (fun ws1 hw1 => ?_)
  rw [setH_c g x c (c + 1) _ (show setH g x c 20 1 + 1 = nI (c + 1) from nI_1 c)] at hw1
  refine V_aload_n dX0_isRed_10 rfl ?_
  refine V_iload_n dX0_isRed_11 rfl ?_
  refine V_rdV (16) mw_X5_firstRed mv_X0_41 dX0_isRed_12 (ct_X5_firstRed hw1 (nI S) hT hT12) hw1.p16 rfl rfl rfl (Nat.le_of_ble_eq_true rfl) (by decide) (by decide) (by decide) (by decide) ?_
  refine V_iconst (v := -1) dX0_isRed_15 (by decide) ?_
  refine V_icmp_eq 23 dX0_isRed_16 (by decide) (fun h16 => ?_) (fun h16 => ?_)
  · skip
    refine V_iconst (v := 0) dX0_isRed_23 (by decide) ?_
    refine V_zret dX0_isRed_24 rfl (by first | exact Or.inl rfl | exact Or.inr rfl) (by decide) (by decide) ?_
    have h17 : fi (pRed (g 17) (nI S)) nT 0 = -1 := h16
    exact ⟨by rw [redB, decide_eq_true h17]; rfl, hw1⟩
  · skip
    refine V_iconst (v := 1) dX0_isRed_19 (by decide) ?_
    refine V_goto 24 dX0_isRed_20 (by decide) ?_
    refine V_zret dX0_isRed_24 rfl (by first | exact Or.inl rfl | exact Or.inr rfl) (by decide) (by decide) ?_
    have h17 : ¬ fi (pRed (g 17) (nI S)) nT 0 = -1 := h16
    exact ⟨by rw [redB, decide_eq_false h17]; rfl, hw1⟩
set_option maxHeartbeats 4000000 in
set_option maxRecDepth 20000 in
theorem lp_X0_withoutLowest {S many : Nat} (hm : many ≤ 1000)  : ∀ (k i : Nat) (x z : Int32) (R : Nat), i ≤ many → many < i + k → x = nI i → z = nI R → R < 1024 → wl many S = wl (many - i) R → V E yX0_withoutLowest cX0_withoutLowest 4 (some (.int)) 1 0 0 (fun r w => r = some (.int (nI (wl many S))) ∧ w = ws) 4 [some (.int (nI S)), some (.int (nI many)), some (.int z), some (.int x)] [] ws 0 0 := by
  intro k
  induction k with
  | zero => intro i x z R h1 h2; exact absurd h2 (by omega)
  | succ k ih =>
    intro i x z R hil hin hx hz hR hinv
    subst hx hz
    refine V_iload_n dX0_withoutLowest_4 rfl ?_
    refine V_iload_n dX0_withoutLowest_5 rfl ?_
    refine V_icmp_ge 24 dX0_withoutLowest_6 (by decide) (fun h6 => ?_) (fun h6 => ?_)
    · skip
      refine V_iload_n dX0_withoutLowest_24 rfl ?_
      refine V_iret dX0_withoutLowest_25 rfl (by decide) (by decide) ?_
      have hi := leK (a := many) (b := i) (by omega) (by omega) h6
      exact ⟨by rw [hinv, show many - i = 0 by omega, wl], rfl⟩
    · skip
      have hi := nleK (a := many) (b := i) (by omega) (by omega) h6
      refine V_iload_n dX0_withoutLowest_9 rfl ?_
      refine V_iload_n dX0_withoutLowest_10 rfl ?_
      refine V_rdS mw_J6_lowestOneBit_0f7a4 ms_X0_49 dX0_withoutLowest_11 (ct_lowestOneBit _) rfl rfl (Nat.le_of_ble_eq_true rfl) (by decide) (by decide) (by decide) (by decide) ?_
      refine V_iconst (v := -1) dX0_withoutLowest_14 (by decide) ?_
      refine V_ixor dX0_withoutLowest_15 ?_
      refine V_iand dX0_withoutLowest_16 ?_
      rw [dropLow_I R hR]
      refine V_istore_n dX0_withoutLowest_17 (by decide) ?_
      refine V_iinc dX0_withoutLowest_18 rfl rfl (by decide) ?_
      refine V_goto 4 dX0_withoutLowest_21 (by decide) ?_
      exact ih (i + 1) _ _ _ (by omega) (by omega) (nI_1 i) rfl (dropLow_lt hR) (by rw [hinv, show many - i = (many - (i + 1)) + 1 by omega, wl])
set_option maxHeartbeats 4000000 in
set_option maxRecDepth 20000 in
theorem ct_X0_withoutLowest {S many : Nat} (hS : S < 1024) (hm : many ≤ 1000) : Ct E yX0_withoutLowest cX0_withoutLowest 4 (some (.int)) 1 0 0 [.int (nI S), .int (nI many)] ws (fun r w => r = some (.int (nI (wl many S))) ∧ w = ws) := by
  refine Ct_of mw_X0_withoutLowest rfl (Nat.le_of_ble_eq_true rfl) ?_
  refine V_iload_n dX0_withoutLowest_0 rfl ?_
  refine V_istore_n dX0_withoutLowest_1 (by decide) ?_
  refine V_iconst (v := 0) dX0_withoutLowest_2 (by decide) ?_
  refine V_istore_n dX0_withoutLowest_3 (by decide) ?_
  exact lp_X0_withoutLowest hm (many + 1) 0 _ _ S (Nat.zero_le _) (by omega) rfl rfl hS rfl
set_option maxHeartbeats 4000000 in
set_option maxRecDepth 20000 in
theorem wp_mid (hT : g 16 1 = nI nT) (hT12 : nT ≤ 12) {S n : Nat} {i R c mm : Nat} (hR : R < 1024) (hmm : mm ≤ 1000) (z7 z8 : Option Value) {P : Option Value → va_W → Prop} (hw : WF E ad el (setH g S c) w0 ws) (kr : redB g nT (dif S (dif R (wl mm R))) = true → ∀ w, WF E ad el (setH g S (c + 1)) w0 w → P (some (.int (nI (dif S (dif R (wl mm R)))))) w) (kf : redB g nT (dif S (dif R (wl mm R))) = false → ∀ w, WF E ad el (setH g S (c + 1)) w0 w → V E yX0_withoutPiece cX0_withoutPiece 9 (some (.int)) 3 0 0 P 29 [some (.ref (ad 20)), some (.ref (ad 16)), some (.int (nI n)), some (.int (nI (popc S))), some (.int (nI (popc S % n))), some (.int (nI (wl mm R))), some (.int (nI i + 1)), some (.int (nI (wl mm R))), some (.int (nI (dif R (wl mm R))))] [] w 0 0) : V E yX0_withoutPiece cX0_withoutPiece 9 (some (.int)) 3 0 0 P 53 [some (.ref (ad 20)), some (.ref (ad 16)), some (.int (nI n)), some (.int (nI (popc S))), some (.int (nI (popc S % n))), some (.int (nI R)), some (.int (nI i)), z7, z8] [.int (nI mm), .int (nI R)] ws 0 0 := by
  refine V_rdS mw_X0_withoutLowest ms_X0_46 dX0_withoutPiece_53 (ct_X0_withoutLowest hR (by omega)) rfl rfl (Nat.le_of_ble_eq_true rfl) (by decide) (by decide) (by decide) (by decide) ?_
  refine V_istore dX0_withoutPiece_56 (by decide) ?_
  refine V_iload dX0_withoutPiece_58 rfl ?_
  refine V_iload dX0_withoutPiece_60 rfl ?_
  refine V_iconst (v := -1) dX0_withoutPiece_62 (by decide) ?_
  refine V_ixor dX0_withoutPiece_63 ?_
  refine V_iand dX0_withoutPiece_64 ?_
  rw [nx_dif]
  refine V_istore dX0_withoutPiece_65 (by decide) ?_
  refine V_aload_n dX0_withoutPiece_67 rfl ?_
  refine V_aload_n dX0_withoutPiece_68 rfl ?_
  refine V_aload_n dX0_withoutPiece_69 rfl ?_
  refine V_get (20) fl_X0_19 dX0_withoutPiece_70 hw.p20 rfl ?_
  refine V_iload dX0_withoutPiece_73 rfl ?_
  refine V_iconst (v := -1) dX0_withoutPiece_75 (by decide) ?_
  refine V_ixor dX0_withoutPiece_76 ?_
  refine V_iand dX0_withoutPiece_77 ?_
  rw [show (setH g S c) 20 0 = nI S from rfl, nx_dif]
  refine V_callV (20) mw_X0_isRed mv_X0_15 dX0_withoutPiece_78 (ct_X0_isRed hw.1 hT hT12 (dif S (dif R (wl mm R)))) hw.p20 rfl rfl rfl (Nat.le_of_ble_eq_true rfl) (by decide) (by decide) (by decide) (by decide) (fun r78 ws1 hp78 => ?_)
  obtain ⟨rfl, hw1⟩ := hp78
  have hw1 := hw.trans hw1
  refine V_if_eq 94 dX0_withoutPiece_81 (by decide) (fun h81 => ?_) (fun h81 => ?_)
  · skip
    refine V_iload dX0_withoutPiece_94 rfl ?_
    refine V_istore dX0_withoutPiece_96 (by decide) ?_
    refine V_iinc dX0_withoutPiece_98 rfl rfl (by decide) ?_
    refine V_goto 29 dX0_withoutPiece_101 (by decide) ?_
    have e := bI_0 h81
    exact kf e ws1 hw1
  · skip
    refine V_aload_n dX0_withoutPiece_84 rfl ?_
    refine V_get (20) fl_X0_19 dX0_withoutPiece_85 hw1.p20 rfl ?_
    refine V_iload dX0_withoutPiece_88 rfl ?_
    refine V_iconst (v := -1) dX0_withoutPiece_90 (by decide) ?_
    refine V_ixor dX0_withoutPiece_91 ?_
    refine V_iand dX0_withoutPiece_92 ?_
    rw [show (setH g S (c + 1)) 20 0 = nI S from rfl, nx_dif]
    refine V_iret dX0_withoutPiece_93 rfl (by decide) (by decide) ?_
    have e := bI_1 h81
    exact kr e ws1 hw1
set_option maxHeartbeats 4000000 in
set_option maxRecDepth 20000 in
theorem lp_X0_withoutPiece (hT : g 16 1 = nI nT) (hT12 : nT ≤ 12) {S n : Nat} (hS : S < 1024) (hn1 : 1 ≤ n) (hn : n ≤ 1000) {c0 : Nat} : ∀ (k i : Nat) (x z : Int32) (R c : Nat) (z7 z8 : Option Value) (ws : va_W), i ≤ n → n < i + k → x = nI i → z = nI R → R < 1024 → wpL g nT S n n 0 S c0 = wpL g nT S n (n - i) i R c → WF E ad el (setH g S c) w0 ws → V E yX0_withoutPiece cX0_withoutPiece 9 (some (.int)) 3 0 0 (fun r w => r = some (.int (sI (wpL g nT S n n 0 S c0).1)) ∧ WF E ad el (setH g S (wpL g nT S n n 0 S c0).2) w0 w) 29 [some (.ref (ad 20)), some (.ref (ad 16)), some (.int (nI n)), some (.int (nI (popc S))), some (.int (nI (popc S % n))), some (.int z), some (.int x), z7, z8] [] ws 0 0 := by
  intro k
  induction k with
  | zero => intro i x z R c z7 z8 ws h1 h2; exact absurd h2 (by omega)
  | succ k ih =>
    intro i x z R c z7 z8 ws hil hin hx hz hR hinv hw
    subst hx hz
    refine V_iload dX0_withoutPiece_29 rfl ?_
    refine V_iload_n dX0_withoutPiece_31 rfl ?_
    refine V_icmp_ge 104 dX0_withoutPiece_32 (by decide) (fun h32 => ?_) (fun h32 => ?_)
    · skip
      refine V_iconst (v := -1) dX0_withoutPiece_104 (by decide) ?_
      refine V_iret dX0_withoutPiece_105 rfl (by decide) (by decide) ?_
      have hi : i = n := by have := leK (a := n) (b := i) (by omega) (by omega) h32; omega
      subst hi
      rw [hinv, Nat.sub_self]
      exact ⟨rfl, hw⟩
    · skip
      have hi := nleK (a := n) (b := i) (by omega) (by omega) h32
      have hpop := popc_le S hS
      refine V_iload dX0_withoutPiece_35 rfl ?_
      refine V_iload_n dX0_withoutPiece_37 rfl ?_
      refine V_iload_n dX0_withoutPiece_38 rfl ?_
      refine V_idiv dX0_withoutPiece_39 (nI_ne0 (by omega) (by omega)) ?_
      rw [pk_div (by omega) (by omega) (by omega)]
      refine V_iload dX0_withoutPiece_40 rfl ?_
      refine V_iload dX0_withoutPiece_42 rfl ?_
      refine V_icmp_ge 51 dX0_withoutPiece_44 (by decide) (fun h44 => ?_) (fun h44 => ?_)
      · skip
        refine V_iconst (v := 0) dX0_withoutPiece_51 (by decide) ?_
        refine V_iadd dX0_withoutPiece_52 ?_
        have hrem : popc S % n < n := Nat.mod_lt _ (by omega)
        have hc := leK (a := popc S % n) (b := i) (by omega) (by omega) h44
        rw [show nI (popc S / n) + (0 : Int32) = nI (popc S / n + 0) from nI_add (popc S / n) 0]
        have hq : popc S / n ≤ popc S := Nat.div_le_self _ _
        have emm : popc S / n + 0 = popc S / n + (if i < popc S % n then 1 else 0) := by rw [if_neg (by omega)]
        refine wp_mid hT hT12 hR (by omega) _ _ hw (fun e w hw => ?_) (fun e w hw => ?_)
        · rw [emm] at e ⊢
          rw [hinv, show n - i = (n - (i + 1)) + 1 by omega, wpL, if_pos e]
          exact ⟨rfl, hw⟩
        · rw [emm] at e ⊢
          exact ih (i + 1) _ _ _ (c + 1) _ _ _ (by omega) (by omega) (nI_1 i) rfl (wl_lt _ hR) (by rw [hinv, show n - i = (n - (i + 1)) + 1 by omega, wpL, if_neg (by rw [e]; decide)]) hw
      · skip
        refine V_iconst (v := 1) dX0_withoutPiece_47 (by decide) ?_
        refine V_goto 52 dX0_withoutPiece_48 (by decide) ?_
        refine V_iadd dX0_withoutPiece_52 ?_
        have hrem : popc S % n < n := Nat.mod_lt _ (by omega)
        have hc := nleK (a := popc S % n) (b := i) (by omega) (by omega) h44
        rw [show nI (popc S / n) + (1 : Int32) = nI (popc S / n + 1) from nI_add (popc S / n) 1]
        have hq : popc S / n ≤ popc S := Nat.div_le_self _ _
        have emm : popc S / n + 1 = popc S / n + (if i < popc S % n then 1 else 0) := by rw [if_pos (by omega)]
        refine wp_mid hT hT12 hR (by omega) _ _ hw (fun e w hw => ?_) (fun e w hw => ?_)
        · rw [emm] at e ⊢
          rw [hinv, show n - i = (n - (i + 1)) + 1 by omega, wpL, if_pos e]
          exact ⟨rfl, hw⟩
        · rw [emm] at e ⊢
          exact ih (i + 1) _ _ _ (c + 1) _ _ _ (by omega) (by omega) (nI_1 i) rfl (wl_lt _ hR) (by rw [hinv, show n - i = (n - (i + 1)) + 1 by omega, wpL, if_neg (by rw [e]; decide)]) hw
set_option maxHeartbeats 4000000 in
set_option maxRecDepth 20000 in
theorem ct_X0_withoutPiece {c0 : Nat} (hT : g 16 1 = nI nT) (hT12 : nT ≤ 12) {S n : Nat} (hS : S < 1024) (hn1 : 1 ≤ n) (hn : n ≤ 1000) (hw : Wd E ad el (setH g S c0) ws) : Ct E yX0_withoutPiece cX0_withoutPiece 9 (some (.int)) 3 0 0 [.ref (ad 20), .ref (ad 16), .int (nI n)] ws (fun r w => r = some (.int (sI (wpL g nT S n n 0 S c0).1)) ∧ WF E ad el (setH g S (wpL g nT S n n 0 S c0).2) ws w) := by
  refine Ct_of mw_X0_withoutPiece rfl (Nat.le_of_ble_eq_true rfl) ?_
  have hw := WF.rf hw
  refine V_iload_n dX0_withoutPiece_0 rfl ?_
  refine V_iconst (v := 1) dX0_withoutPiece_1 (by decide) ?_
  refine V_icmp_ge 7 dX0_withoutPiece_2 (by decide) (fun h2 => ?_) (fun h2 => absurd (nI_leI (a := 1) (b := n) (by decide) (by omega) |>.mpr hn1) h2)
  refine V_aload_n dX0_withoutPiece_7 rfl ?_
  refine V_get (20) fl_X0_19 dX0_withoutPiece_8 hw.p20 rfl ?_
  rw [show (setH g S c0) 20 0 = nI S from rfl]
  refine V_rdS mw_J6_bitCount_0f7a4 ms_X0_22 dX0_withoutPiece_11 (ct_bitCount hS) rfl rfl (Nat.le_of_ble_eq_true rfl) (by decide) (by decide) (by decide) (by decide) ?_
  refine V_istore_n dX0_withoutPiece_14 (by decide) ?_
  refine V_iload_n dX0_withoutPiece_15 rfl ?_
  refine V_iload_n dX0_withoutPiece_16 rfl ?_
  refine V_irem dX0_withoutPiece_17 (nI_ne0 (by omega) (by omega)) ?_
  rw [pk_rem (by have := popc_le S hS; omega) (by omega) (by omega)]
  refine V_istore dX0_withoutPiece_18 (by decide) ?_
  refine V_aload_n dX0_withoutPiece_20 rfl ?_
  refine V_get (20) fl_X0_19 dX0_withoutPiece_21 hw.p20 rfl ?_
  refine V_istore dX0_withoutPiece_24 (by decide) ?_
  refine V_iconst (v := 0) dX0_withoutPiece_26 (by decide) ?_
  refine V_istore dX0_withoutPiece_27 (by decide) ?_
  exact lp_X0_withoutPiece hT hT12 hS hn1 hn (n + 1) 0 _ _ S _ _ _ ws (Nat.zero_le _) (by omega) rfl rfl hS rfl hw
theorem wpL_lt {S n : Nat} (hS : S < 1024) : ∀ (k i R c : Nat) (S2 : Nat), (wpL g nT S n k i R c).1 = some S2 → S2 < 1024
  | 0, _, _, _, _, h => by cases h
  | k + 1, i, R, c, S2, h => by
    unfold wpL at h
    generalize (popc S / n + if i < popc S % n then 1 else 0) = mm at h
    split at h
    · cases h
      exact dif_lt hS
    · exact wpL_lt hS k _ _ _ S2 h
set_option maxHeartbeats 4000000 in
set_option maxRecDepth 20000 in
theorem lp_X0_follow (hT : g 16 1 = nI nT) (hT12 : nT ≤ 12) {S0 : Nat} (hS0 : S0 < 1024) : ∀ (k i : Nat) (x xn xo : Int32) (n S : Nat) (ov : Bool) (c : Nat) (z6 z7 : Option Value) (ws : va_W), i + k = 1000 → x = nI i → xn = nI n → xo = bI ov → S < 1024 → 1 ≤ n → n ≤ 1000 → hunt g nT S0 = foL g nT k S n ov c → WF E ad el (setH g S c) w0 ws → V E yX0_follow cX0_follow 8 none 4 0 0 (fun r w => r = none ∧ WF E ad el (setH g (hunt g nT S0).1 (hunt g nT S0).2) w0 w) 31 [some (.ref (ad 20)), some (.ref (ad 16)), some (.int (nI S0)), some (.int xn), some (.int xo), some (.int x), z6, z7] [] ws 0 0 := by
  intro k
  induction k using Nat.strongRecOn with
  | _ k ih =>
  intro i x xn xo n S ov c z6 z7 ws hik hx hxn hxo hS hn1 hn hinv hw
  subst hx hxn hxo
  refine V_iload dX0_follow_31 rfl ?_
  refine V_sipush (v := 1000) dX0_follow_33 (by decide) ?_
  refine V_icmp_ge 123 dX0_follow_36 (by decide) (fun h36 => ?_) (fun h36 => ?_)
  · skip
    refine V_vret dX0_follow_123 rfl (by decide) (by decide) ?_
    have hk0 : k = 0 := by
      have := leK (a := 1000) (b := i) (by decide) (by omega) h36
      omega
    subst hk0
    rw [hinv]
    exact ⟨rfl, by unfold foL; exact hw⟩
  · skip
    refine V_iload dX0_follow_39 rfl ?_
    refine V_if_ne 123 dX0_follow_41 (by decide) (fun h41 => ?_) (fun h41 => ?_)
    · skip
      refine V_vret dX0_follow_123 rfl (by decide) (by decide) ?_
      have e := bI_1 h41
      rw [hinv]
      exact ⟨rfl, by cases k with
        | zero => exact hw
        | succ k => rw [foL, if_pos e]; exact hw⟩
    · skip
      refine V_aload_n dX0_follow_44 rfl ?_
      refine V_get (20) fl_X0_19 dX0_follow_45 hw.p20 rfl ?_
      rw [show (setH g S c) 20 0 = nI S from rfl]
      refine V_rdS mw_J6_bitCount_0f7a4 ms_X0_22 dX0_follow_48 (ct_bitCount hS) rfl rfl (Nat.le_of_ble_eq_true rfl) (by decide) (by decide) (by decide) (by decide) ?_
      refine V_iconst (v := 1) dX0_follow_51 (by decide) ?_
      refine V_icmp_le 123 dX0_follow_52 (by decide) (fun h52 => ?_) (fun h52 => ?_)
      · skip
        refine V_vret dX0_follow_123 rfl (by decide) (by decide) ?_
        have e := bI_0 h41
        have hp1 := leK (a := popc S) (b := 1) (by have := popc_le S hS; omega) (by decide) h52
        rw [hinv]
        exact ⟨rfl, by cases k with
          | zero => exact hw
          | succ k => rw [foL, if_neg (by rw [e]; decide), if_pos hp1]; exact hw⟩
      · skip
        have hp1 := nleK (a := popc S) (b := 1) (by have := popc_le S hS; omega) (by decide) h52
        refine V_aload_n dX0_follow_55 rfl ?_
        refine V_aload_n dX0_follow_56 rfl ?_
        refine V_iload_n dX0_follow_57 rfl ?_
        refine V_callV (20) mw_X0_withoutPiece mv_X0_28 dX0_follow_58 (ct_X0_withoutPiece hT hT12 hS hn1 hn hw.1) hw.p20 rfl rfl rfl (Nat.le_of_ble_eq_true rfl) (by decide) (by decide) (by decide) (by decide) (fun r58 ws1 hp58 => ?_)
        obtain ⟨rfl, hw1⟩ := hp58
        have hw1 := hw.trans hw1
        generalize hwp : wpL g nT S n n 0 S c = wp at hw1 ⊢
        obtain ⟨o, c2⟩ := wp
        dsimp only at hw1 ⊢
        refine V_istore dX0_follow_61 (by decide) ?_
        refine V_iload dX0_follow_63 rfl ?_
        refine V_iconst (v := -1) dX0_follow_65 (by decide) ?_
        refine V_icmp_eq 86 dX0_follow_66 (by decide) (fun h66 => ?_) (fun h66 => ?_)
        · skip
          refine V_aload_n dX0_follow_86 rfl ?_
          refine V_get (20) fl_X0_19 dX0_follow_87 hw1.p20 rfl ?_
          rw [show (setH g S c2) 20 0 = nI S from rfl]
          refine V_rdS mw_J6_bitCount_0f7a4 ms_X0_22 dX0_follow_90 (ct_bitCount hS) rfl rfl (Nat.le_of_ble_eq_true rfl) (by decide) (by decide) (by decide) (by decide) ?_
          refine V_istore dX0_follow_93 (by decide) ?_
          refine V_iload_n dX0_follow_95 rfl ?_
          refine V_iload dX0_follow_96 rfl ?_
          refine V_icmp_lt 105 dX0_follow_98 (by decide) (fun h98 => ?_) (fun h98 => ?_)
          · skip
            refine V_iconst (v := 0) dX0_follow_105 (by decide) ?_
            refine V_istore dX0_follow_106 (by decide) ?_
            refine V_iload_n dX0_follow_108 rfl ?_
            refine V_iconst (v := 2) dX0_follow_109 (by decide) ?_
            refine V_imul dX0_follow_110 ?_
            refine V_iload dX0_follow_111 rfl ?_
            refine V_mmin wd_mminL_X0_38 wd_mminS wd_mathI wd_mminC dX0_follow_113 (by decide) (Nat.le_of_ble_eq_true rfl) (by decide) (by decide) ?_
            refine V_istore_n dX0_follow_116 (by decide) ?_
            refine V_iinc dX0_follow_117 rfl rfl (by decide) ?_
            refine V_goto 31 dX0_follow_120 (by decide) ?_
            have e := bI_0 h41
            have hk : ∃ k0, k = k0 + 1 := ⟨k - 1, by have := nleK (a := 1000) (b := i) (by decide) (by omega) h36; omega⟩
            obtain ⟨k0, rfl⟩ := hk
            have ho : o = none := by
              cases o with
              | none => rfl
              | some S2 => exact absurd h66 (nI_ne_m1 (by have := wpL_lt hS n 0 S c S2 (by rw [hwp]); omega))
            subst ho
            have hpop := popc_le S hS
            refine ih k0 (by omega) (i + 1) _ _ _ (if popc S < n * 2 then popc S else n * 2) S (decide (popc S ≤ n)) c2 _ _ _ (by omega) (nI_1 i) ?_ ?_ hS (by split <;> omega) (by split <;> omega) (by rw [hinv, foL, if_neg (by rw [e]; decide), if_neg (by omega), hwp]) hw1
            · rw [show nI n * (2 : Int32) = nI (n * 2) from pk_mul n 2]
              by_cases q : popc S < n * 2
              · rw [if_pos q, if_pos ((nI_ltI (by omega) (by omega)).mpr q)]
              · rw [if_neg q, if_neg (fun z => q ((nI_ltI (by omega) (by omega)).mp z))]
            · rw [decide_eq_false (by have := ltK (a := n) (b := popc S) (by omega) (by omega) h98; omega)]; rfl
          · skip
            refine V_iconst (v := 1) dX0_follow_101 (by decide) ?_
            refine V_goto 106 dX0_follow_102 (by decide) ?_
            refine V_istore dX0_follow_106 (by decide) ?_
            refine V_iload_n dX0_follow_108 rfl ?_
            refine V_iconst (v := 2) dX0_follow_109 (by decide) ?_
            refine V_imul dX0_follow_110 ?_
            refine V_iload dX0_follow_111 rfl ?_
            refine V_mmin wd_mminL_X0_38 wd_mminS wd_mathI wd_mminC dX0_follow_113 (by decide) (Nat.le_of_ble_eq_true rfl) (by decide) (by decide) ?_
            refine V_istore_n dX0_follow_116 (by decide) ?_
            refine V_iinc dX0_follow_117 rfl rfl (by decide) ?_
            refine V_goto 31 dX0_follow_120 (by decide) ?_
            have e := bI_0 h41
            have hk : ∃ k0, k = k0 + 1 := ⟨k - 1, by have := nleK (a := 1000) (b := i) (by decide) (by omega) h36; omega⟩
            obtain ⟨k0, rfl⟩ := hk
            have ho : o = none := by
              cases o with
              | none => rfl
              | some S2 => exact absurd h66 (nI_ne_m1 (by have := wpL_lt hS n 0 S c S2 (by rw [hwp]); omega))
            subst ho
            have hpop := popc_le S hS
            refine ih k0 (by omega) (i + 1) _ _ _ (if popc S < n * 2 then popc S else n * 2) S (decide (popc S ≤ n)) c2 _ _ _ (by omega) (nI_1 i) ?_ ?_ hS (by split <;> omega) (by split <;> omega) (by rw [hinv, foL, if_neg (by rw [e]; decide), if_neg (by omega), hwp]) hw1
            · rw [show nI n * (2 : Int32) = nI (n * 2) from pk_mul n 2]
              by_cases q : popc S < n * 2
              · rw [if_pos q, if_pos ((nI_ltI (by omega) (by omega)).mpr q)]
              · rw [if_neg q, if_neg (fun z => q ((nI_ltI (by omega) (by omega)).mp z))]
            · rw [decide_eq_true (by have := nltK (a := n) (b := popc S) (by omega) (by omega) h98; omega)]; rfl
        · skip
          refine V_aload_n dX0_follow_69 rfl ?_
          refine V_iload dX0_follow_70 rfl ?_
          refine W_put (20) hw1 (by decide) fp_X0_19 dX0_follow_72 rfl rfl rfl rfl (Nat.le_of_ble_eq_true rfl) (fun ws2 hw2 => ?_)
          refine V_iload_n dX0_follow_75 rfl ?_
          refine V_iconst (v := 1) dX0_follow_76 (by decide) ?_
          refine V_isub dX0_follow_77 ?_
          refine V_iconst (v := 2) dX0_follow_78 (by decide) ?_
          refine V_mmax wd_mmaxL_X0_32 wd_mmaxS wd_mathI wd_mmaxC dX0_follow_79 (by decide) (Nat.le_of_ble_eq_true rfl) (by decide) (by decide) ?_
          refine V_istore_n dX0_follow_82 (by decide) ?_
          refine V_goto 117 dX0_follow_83 (by decide) ?_
          refine V_iinc dX0_follow_117 rfl rfl (by decide) ?_
          refine V_goto 31 dX0_follow_120 (by decide) ?_
          have e := bI_0 h41
          have hk : ∃ k0, k = k0 + 1 := ⟨k - 1, by have := nleK (a := 1000) (b := i) (by decide) (by omega) h36; omega⟩
          obtain ⟨k0, rfl⟩ := hk
          obtain ⟨S2, rfl⟩ : ∃ S2, o = some S2 := by
            cases o with
            | none => exact absurd rfl h66
            | some S2 => exact ⟨S2, rfl⟩
          have hS2 := wpL_lt hS n 0 S c S2 (by rw [hwp])
          rw [setH_S g S c2 S2 (sI (some S2)) rfl] at hw2
          refine ih k0 (by omega) (i + 1) _ _ _ (if n - 1 < 2 then 2 else n - 1) S2 false c2 _ _ _ (by omega) (nI_1 i) ?_ (by rw [e]) hS2 (by split <;> omega) (by split <;> omega) (by rw [hinv, foL, if_neg (by rw [e]; decide), if_neg (by omega), hwp]) hw2
          rw [show nI n - (1 : Int32) = nI (n - 1) from pk_sub (a := n) (b := 1) hn1]
          by_cases q : n - 1 < 2
          · rw [if_pos q, if_pos (show nI (n - 1) < (2 : Int32) from (nI_ltI (a := n - 1) (b := 2) (by omega) (by omega)).mpr q)]; rfl
          · rw [if_neg q, if_neg (show ¬ nI (n - 1) < (2 : Int32) from fun z => q ((nI_ltI (a := n - 1) (b := 2) (by omega) (by omega)).mp z))]
set_option maxHeartbeats 4000000 in
set_option maxRecDepth 20000 in
theorem ct_X0_follow (hw : Wd E ad el g ws) (hT : g 16 1 = nI nT) (hT12 : nT ≤ 12) {S0 : Nat} (hS0 : S0 < 1024) {x0 : Nat} (hx0 : nI x0 = g 20 0) : Ct E yX0_follow cX0_follow 8 none 4 0 0 [.ref (ad 20), .ref (ad 16), .int (nI S0)] ws (fun r w => r = none ∧ WF E ad el (setH g (hunt g nT S0).1 (hunt g nT S0).2) ws w) := by
  refine Ct_of mw_X0_follow rfl (Nat.le_of_ble_eq_true rfl) ?_
  have hw := WF.rf hw
  refine V_aload_n dX0_follow_0 rfl ?_
  refine V_iconst (v := 0) dX0_follow_1 (by decide) ?_
  refine W_put (20) hw (by decide) fp_X0_9 dX0_follow_2 rfl rfl rfl rfl (Nat.le_of_ble_eq_true rfl) (fun ws1 hw1 => ?_)
  have hw1 : WF E ad el (setH g x0 0) ws ws1 := by
    have e : va_up g 20 (upd (g 20) 1 0) = setH g x0 0 := by
      unfold setH
      congr 1
      funext j
      unfold upd
      by_cases h0 : j = 0
      · subst h0; simp [← hx0]
      · by_cases h1 : j = 1
        · subst h1; simp; rfl
        · simp [h0, h1]
    rw [← e]
    exact hw1
  refine V_aload_n dX0_follow_5 rfl ?_
  refine V_aload_n dX0_follow_6 rfl ?_
  refine V_aload_n dX0_follow_7 rfl ?_
  refine V_iload_n dX0_follow_8 rfl ?_
  refine V_callV (20) mw_X0_isRed mv_X0_15 dX0_follow_9 (ct_X0_isRed hw1.1 hT hT12 S0) hw1.p20 rfl rfl rfl (Nat.le_of_ble_eq_true rfl) (by decide) (by decide) (by decide) (by decide) (fun r9 ws2 hp9 => ?_)
  obtain ⟨rfl, hw2⟩ := hp9
  have hw2 := hw1.trans hw2
  refine V_if_eq 19 dX0_follow_12 (by decide) (fun h12 => ?_) (fun h12 => ?_)
  · skip
    refine V_iconst (v := 0) dX0_follow_19 (by decide) ?_
    refine W_put (20) hw2 (by decide) fp_X0_19 dX0_follow_20 rfl rfl rfl rfl (Nat.le_of_ble_eq_true rfl) (fun ws3 hw3 => ?_)
    refine V_iconst (v := 2) dX0_follow_23 (by decide) ?_
    refine V_istore_n dX0_follow_24 (by decide) ?_
    refine V_iconst (v := 0) dX0_follow_25 (by decide) ?_
    refine V_istore dX0_follow_26 (by decide) ?_
    refine V_iconst (v := 0) dX0_follow_28 (by decide) ?_
    refine V_istore dX0_follow_29 (by decide) ?_
    have e := bI_0 h12
    rw [setH_S _ _ _ 0 (0 : Int32) rfl] at hw3
    exact lp_X0_follow hT hT12 hS0 1000 0 _ _ _ 2 0 false 1 _ _ _ (by decide) rfl rfl rfl (by first | exact hS0 | decide) (by decide) (by decide) (by rw [hunt, if_neg (by rw [e]; decide)]; rfl) hw3
  · skip
    refine V_iload_n dX0_follow_15 rfl ?_
    refine V_goto 20 dX0_follow_16 (by decide) ?_
    refine W_put (20) hw2 (by decide) fp_X0_19 dX0_follow_20 rfl rfl rfl rfl (Nat.le_of_ble_eq_true rfl) (fun ws3 hw3 => ?_)
    refine V_iconst (v := 2) dX0_follow_23 (by decide) ?_
    refine V_istore_n dX0_follow_24 (by decide) ?_
    refine V_iconst (v := 0) dX0_follow_25 (by decide) ?_
    refine V_istore dX0_follow_26 (by decide) ?_
    refine V_iconst (v := 0) dX0_follow_28 (by decide) ?_
    refine V_istore dX0_follow_29 (by decide) ?_
    have e := bI_1 h12
    rw [setH_S _ _ _ S0 (nI S0) rfl] at hw3
    exact lp_X0_follow hT hT12 hS0 1000 0 _ _ _ 2 S0 false 1 _ _ _ (by decide) rfl rfl rfl (by first | exact hS0 | decide) (by decide) (by decide) (by rw [hunt, if_pos e]) hw3
end HNT
