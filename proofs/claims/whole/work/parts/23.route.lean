/-! ===== Integer.bitCount, lowestOneBit; Route (18, 19) ===== -/
/-- how many of the bits 0 .. k - 1 are set -/
def cnt (S : Nat) : Nat → Nat
  | 0 => 0
  | k + 1 => cnt S k + (if S.testBit k = true then 1 else 0)
abbrev popc (S : Nat) : Nat := cnt S 10
def us (x : Int32) (k : Int32) : Int32 := (x.toUInt32 >>> (k.toUInt32 &&& Int32.toUInt32 31)).toInt32
def bc1 (x : Int32) : Int32 := x - (us x 1 &&& 1431655765)
def bc2 (x : Int32) : Int32 := (x &&& 858993459) + (us x 2 &&& 858993459)
def bc3 (x : Int32) : Int32 := (x + us x 4) &&& 252645135
def bc4 (x : Int32) : Int32 := x + us x 8
def bc5 (x : Int32) : Int32 := x + us x 16
def bcI (x : Int32) : Int32 := bc5 (bc4 (bc3 (bc2 (bc1 x)))) &&& 63
theorem bcI_eq : ∀ S, S < 1024 → bcI (nI S) = nI (popc S) := by decide +kernel
theorem popc_le : ∀ S, S < 1024 → popc S ≤ 10 := by decide +kernel
def lowI (x : Int32) : Int32 := x &&& (-x)
/-- the first part that may go out next -/
def pOpen (g : Nat → Nat → Int32) (n G s p : Nat) : Bool := G.testBit p && (!decide (s ||| 2 ^ p = s) && decide (fi (pBrk (g 14) (g 15) (nI (s ||| 2 ^ p))) n 0 = -1))
def sI (s : Option Nat) : Int32 := match s with
  | none => -1
  | some s => nI s
/-- the plan: from i parts on, the path so far, the set that is out (none: stuck) -/
def planL (g : Nat → Nat → Int32) (n G sz : Nat) : Nat → Nat → (Nat → Int32) → Option Nat → (Nat → Int32) × Option Nat
  | 0, _, f, s => (f, s)
  | _ + 1, _, f, none => (f, none)
  | k + 1, i, f, some s => if sz ≤ i then (f, some s) else
    if fi (pOpen g n G s) 10 0 = -1 then (upd f i (-1), none) else planL g n G sz k (i + 1) (upd f i (fi (pOpen g n G s) 10 0)) (some (s ||| 2 ^ (fi (pOpen g n G s) 10 0).toNatClampNeg))
def plan (g : Nat → Nat → Int32) (n G : Nat) : (Nat → Int32) × Option Nat := planL g n G (popc G) 11 0 (g 19) (if fi (pBrk (g 14) (g 15) 0) n 0 = -1 then some 0 else none)
def planG (g : Nat → Nat → Int32) (n G : Nat) : Nat → Nat → Int32 := va_up (va_up g 19 (plan g n G).1) 18 (upd (g 18) 1 (if sI (plan g n G).2 = -1 then -1 else nI (popc G)))
theorem or_lt {a p : Nat} (ha : a < 1024) (hp : p < 10) : a ||| 2 ^ p < 1024 := Nat.or_lt_two_pow (n := 10) ha (Nat.pow_lt_pow_right (by decide) hp)
theorem nI_inj1024 {a b : Nat} (ha : a < 1024) (hb : b < 1024) (h : nI a = nI b) : a = b := (nI_eq (by omega) (by omega)).mp h
theorem nI_ne_m1 {a : Nat} (ha : a < 2 ^ 31) : ¬ nI a = -1 := fun h => absurd (h ▸ nI_pos ha) (by decide)
section RTE
variable {E : VE} {ad : Nat → Nat} {el : Nat} {g : Nat → Nat → Int32} {w0 ws : va_W}
set_option maxHeartbeats 4000000 in
set_option maxRecDepth 20000 in
theorem ct_bitCountI (x : Int32) : Ct E yJ6_bitCount_0f7a4 cJ6_bitCount_0f7a4 1 (some (.int)) 0 0 0 [.int x] ws (fun r w => r = some (.int (bcI x)) ∧ w = ws) := by
  refine Ct_of mw_J6_bitCount_0f7a4 rfl (Nat.le_of_ble_eq_true rfl) ?_
  refine V_iload_n dJ6_bitCount_0f7a4_0 rfl ?_
  refine V_iload_n dJ6_bitCount_0f7a4_1 rfl ?_
  refine V_iconst (v := 1) dJ6_bitCount_0f7a4_2 (by decide) ?_
  refine V_iushr dJ6_bitCount_0f7a4_3 rfl ?_
  refine V_ldcw wd_co_J6_265 dJ6_bitCount_0f7a4_4 ?_
  refine V_iand dJ6_bitCount_0f7a4_7 ?_
  refine V_isub dJ6_bitCount_0f7a4_8 ?_
  refine V_istore_n dJ6_bitCount_0f7a4_9 (by decide) ?_
  refine V_iload_n dJ6_bitCount_0f7a4_10 rfl ?_
  refine V_ldcw wd_co_J6_266 dJ6_bitCount_0f7a4_11 ?_
  refine V_iand dJ6_bitCount_0f7a4_14 ?_
  refine V_iload_n dJ6_bitCount_0f7a4_15 rfl ?_
  refine V_iconst (v := 2) dJ6_bitCount_0f7a4_16 (by decide) ?_
  refine V_iushr dJ6_bitCount_0f7a4_17 rfl ?_
  refine V_ldcw wd_co_J6_266 dJ6_bitCount_0f7a4_18 ?_
  refine V_iand dJ6_bitCount_0f7a4_21 ?_
  refine V_iadd dJ6_bitCount_0f7a4_22 ?_
  refine V_istore_n dJ6_bitCount_0f7a4_23 (by decide) ?_
  refine V_iload_n dJ6_bitCount_0f7a4_24 rfl ?_
  refine V_iload_n dJ6_bitCount_0f7a4_25 rfl ?_
  refine V_iconst (v := 4) dJ6_bitCount_0f7a4_26 (by decide) ?_
  refine V_iushr dJ6_bitCount_0f7a4_27 rfl ?_
  refine V_iadd dJ6_bitCount_0f7a4_28 ?_
  refine V_ldcw wd_co_J6_267 dJ6_bitCount_0f7a4_29 ?_
  refine V_iand dJ6_bitCount_0f7a4_32 ?_
  refine V_istore_n dJ6_bitCount_0f7a4_33 (by decide) ?_
  refine V_iload_n dJ6_bitCount_0f7a4_34 rfl ?_
  refine V_iload_n dJ6_bitCount_0f7a4_35 rfl ?_
  refine V_bipush (v := 8) dJ6_bitCount_0f7a4_36 (by decide) ?_
  refine V_iushr dJ6_bitCount_0f7a4_38 rfl ?_
  refine V_iadd dJ6_bitCount_0f7a4_39 ?_
  refine V_istore_n dJ6_bitCount_0f7a4_40 (by decide) ?_
  refine V_iload_n dJ6_bitCount_0f7a4_41 rfl ?_
  refine V_iload_n dJ6_bitCount_0f7a4_42 rfl ?_
  refine V_bipush (v := 16) dJ6_bitCount_0f7a4_43 (by decide) ?_
  refine V_iushr dJ6_bitCount_0f7a4_45 rfl ?_
  refine V_iadd dJ6_bitCount_0f7a4_46 ?_
  refine V_istore_n dJ6_bitCount_0f7a4_47 (by decide) ?_
  refine V_iload_n dJ6_bitCount_0f7a4_48 rfl ?_
  refine V_bipush (v := 63) dJ6_bitCount_0f7a4_49 (by decide) ?_
  refine V_iand dJ6_bitCount_0f7a4_51 ?_
  refine V_iret dJ6_bitCount_0f7a4_52 rfl (by decide) (by decide) ?_
  exact ⟨rfl, rfl⟩
set_option maxHeartbeats 4000000 in
set_option maxRecDepth 20000 in
theorem ct_bitCount {S : Nat} (hS : S < 1024) : Ct E yJ6_bitCount_0f7a4 cJ6_bitCount_0f7a4 1 (some (.int)) 0 0 0 [.int (nI S)] ws (fun r w => r = some (.int (nI (popc S))) ∧ w = ws) := by
  have h := ct_bitCountI (E := E) (ws := ws) (nI S)
  rw [bcI_eq S hS] at h
  exact h
set_option maxHeartbeats 4000000 in
set_option maxRecDepth 20000 in
theorem ct_lowestOneBit (x : Int32) : Ct E yJ6_lowestOneBit_0f7a4 cJ6_lowestOneBit_0f7a4 1 (some (.int)) 0 0 0 [.int x] ws (fun r w => r = some (.int (lowI x)) ∧ w = ws) := by
  refine Ct_of mw_J6_lowestOneBit_0f7a4 rfl (Nat.le_of_ble_eq_true rfl) ?_
  refine V_iload_n dJ6_lowestOneBit_0f7a4_0 rfl ?_
  refine V_iload_n dJ6_lowestOneBit_0f7a4_1 rfl ?_
  refine V_ineg dJ6_lowestOneBit_0f7a4_2 ?_
  refine V_iand dJ6_lowestOneBit_0f7a4_3 ?_
  refine V_iret dJ6_lowestOneBit_0f7a4_4 rfl (by decide) (by decide) ?_
  exact ⟨rfl, rfl⟩
set_option maxHeartbeats 4000000 in
set_option maxRecDepth 20000 in
theorem ct_X4_isFound (hw : WF E ad el g w0 ws) : Ct E yX4_isFound cX4_isFound 1 (some (.boolean)) 0 0 0 [.ref (ad 18)] ws (fun r w => r = some (.int (if g 18 1 = -1 then 0 else 1)) ∧ w = ws) := by
  refine Ct_of mw_X4_isFound rfl (Nat.le_of_ble_eq_true rfl) ?_
  refine V_aload_n dX4_isFound_0 rfl ?_
  refine V_get (18) fl_X4_15 dX4_isFound_1 hw.p18 rfl ?_
  refine V_iconst (v := -1) dX4_isFound_4 (by decide) ?_
  refine V_icmp_eq 12 dX4_isFound_5 (by decide) (fun h5 => ?_) (fun h5 => ?_)
  · skip
    refine V_iconst (v := 0) dX4_isFound_12 (by decide) ?_
    refine V_zret dX4_isFound_13 rfl (by first | exact Or.inl rfl | exact Or.inr rfl) (by decide) (by decide) ?_
    exact ⟨by rw [if_pos h5], rfl⟩
  · skip
    refine V_iconst (v := 1) dX4_isFound_8 (by decide) ?_
    refine V_goto 13 dX4_isFound_9 (by decide) ?_
    refine V_zret dX4_isFound_13 rfl (by first | exact Or.inl rfl | exact Or.inr rfl) (by decide) (by decide) ?_
    exact ⟨by rw [if_neg h5], rfl⟩
set_option maxHeartbeats 4000000 in
set_option maxRecDepth 20000 in
theorem ct_X4_partAt (hw : WF E ad el g w0 ws) (i : Int32) : Ct E yX4_partAt cX4_partAt 2 (some (.int)) 0 0 0 [.ref (ad 18), .int i] ws (fun r w => r = some (.int (if i < 0 then -1 else if g 18 1 ≤ i then -1 else if 10 ≤ i then -1 else g 19 i.toNatClampNeg)) ∧ w = ws) := by
  refine Ct_of mw_X4_partAt rfl (Nat.le_of_ble_eq_true rfl) ?_
  refine V_iload_n dX4_partAt_0 rfl ?_
  refine V_if_lt 27 dX4_partAt_1 (by decide) (fun h1 => ?_) (fun h1 => ?_)
  · skip
    refine V_iconst (v := -1) dX4_partAt_27 (by decide) ?_
    refine V_iret dX4_partAt_28 rfl (by decide) (by decide) ?_
    exact ⟨by rw [if_pos h1], rfl⟩
  · skip
    refine V_iload_n dX4_partAt_4 rfl ?_
    refine V_aload_n dX4_partAt_5 rfl ?_
    refine V_get (18) fl_X4_15 dX4_partAt_6 hw.p18 rfl ?_
    refine V_icmp_ge 27 dX4_partAt_9 (by decide) (fun h9 => ?_) (fun h9 => ?_)
    · skip
      refine V_iconst (v := -1) dX4_partAt_27 (by decide) ?_
      refine V_iret dX4_partAt_28 rfl (by decide) (by decide) ?_
      exact ⟨by rw [if_neg h1, if_pos h9], rfl⟩
    · skip
      refine V_iload_n dX4_partAt_12 rfl ?_
      refine V_bipush (v := 10) dX4_partAt_13 (by decide) ?_
      refine V_icmp_ge 27 dX4_partAt_15 (by decide) (fun h15 => ?_) (fun h15 => ?_)
      · skip
        refine V_iconst (v := -1) dX4_partAt_27 (by decide) ?_
        refine V_iret dX4_partAt_28 rfl (by decide) (by decide) ?_
        exact ⟨by rw [if_neg h1, if_neg h9, if_pos h15], rfl⟩
      · skip
        refine V_aload_n dX4_partAt_18 rfl ?_
        refine V_get (18) fl_X4_9 dX4_partAt_19 hw.p18 rfl ?_
        refine V_iload_n dX4_partAt_22 rfl ?_
        refine V_iald (19) dX4_partAt_23 hw.p19 (in_of (n := 10) (by decide) h1 h15) ?_
        refine V_goto 28 dX4_partAt_24 (by decide) ?_
        refine V_iret dX4_partAt_28 rfl (by decide) (by decide) ?_
        exact ⟨by rw [if_neg h1, if_neg h9, if_neg h15], rfl⟩
set_option maxHeartbeats 4000000 in
set_option maxRecDepth 20000 in
theorem lp_X4_firstOpen (hw : WF E ad el g w0 ws) {n : Nat} (hn : g 8 7 = nI n) (hN : n ≤ 30) {G s : Nat} (hG : G < 1024) (hs : s < 1024) : ∀ (k i : Nat) (x : Int32) (z : Option Value), i ≤ 10 → 10 < i + k → x = nI i → fi (pOpen g n G s) 10 0 = fi (pOpen g n G s) (10 - i) i → V E yX4_firstOpen cX4_firstOpen 5 (some (.int)) 1 0 0 (fun r w => r = some (.int (fi (pOpen g n G s) 10 0)) ∧ w = ws) 2 [some (.ref (ad 8)), some (.int (nI G)), some (.int (nI s)), some (.int x), z] [] ws 0 0 := by
  intro k
  induction k with
  | zero => intro i x z h1 h2; exact absurd h2 (by omega)
  | succ k ih =>
    intro i x z hil hin hx hinv
    subst hx
    refine V_iload_n dX4_firstOpen_2 rfl ?_
    refine V_bipush (v := 10) dX4_firstOpen_3 (by decide) ?_
    refine V_icmp_ge 47 dX4_firstOpen_5 (by decide) (fun h5 => ?_) (fun h5 => ?_)
    · skip
      refine V_iconst (v := -1) dX4_firstOpen_47 (by decide) ?_
      refine V_iret dX4_firstOpen_48 rfl (by decide) (by decide) ?_
      have hi := leK (a := 10) (b := i) (by decide) (by omega) h5
      exact ⟨by rw [hinv, fi_end hi], rfl⟩
    · skip
      have hi := nleK (a := 10) (b := i) (by decide) (by omega) h5
      refine V_iload_n dX4_firstOpen_8 rfl ?_
      refine V_iconst (v := 1) dX4_firstOpen_9 (by decide) ?_
      refine V_iload_n dX4_firstOpen_10 rfl ?_
      refine V_ishl dX4_firstOpen_11 ?_
      refine V_ior dX4_firstOpen_12 ?_
      rw [shl1 i (by omega), nx_or]
      refine V_istore dX4_firstOpen_13 (by decide) ?_
      refine V_iload_n dX4_firstOpen_15 rfl ?_
      refine V_iload_n dX4_firstOpen_16 rfl ?_
      refine V_ishr dX4_firstOpen_17 ?_
      refine V_iconst (v := 1) dX4_firstOpen_18 (by decide) ?_
      refine V_iand dX4_firstOpen_19 ?_
      refine V_if_eq 41 dX4_firstOpen_20 (by decide) (fun h20 => ?_) (fun h20 => ?_)
      · skip
        refine V_iinc dX4_firstOpen_41 rfl rfl (by decide) ?_
        refine V_goto 2 dX4_firstOpen_44 (by decide) ?_
        have hb := bitAt_eq (by omega) (by omega) h20
        exact ih (i + 1) _ _ (by omega) (by omega) (nI_1 i) (by rw [hinv, fi_step hi, if_neg (by simp [pOpen, hb])])
      · skip
        refine V_iload dX4_firstOpen_23 rfl ?_
        refine V_iload_n dX4_firstOpen_25 rfl ?_
        refine V_icmp_eq 41 dX4_firstOpen_26 (by decide) (fun h26 => ?_) (fun h26 => ?_)
        · skip
          refine V_iinc dX4_firstOpen_41 rfl rfl (by decide) ?_
          refine V_goto 2 dX4_firstOpen_44 (by decide) ?_
          have hb := nI_inj1024 (or_lt hs hi) hs h26
          exact ih (i + 1) _ _ (by omega) (by omega) (nI_1 i) (by rw [hinv, fi_step hi, if_neg (by simp [pOpen, hb])])
        · skip
          refine V_aload_n dX4_firstOpen_29 rfl ?_
          refine V_iload dX4_firstOpen_30 rfl ?_
          refine V_rdV (8) mw_X1_firstBroken mv_X4_25 dX4_firstOpen_32 (ct_X1_firstBroken hw _ hn hN) hw.p8 rfl rfl rfl (Nat.le_of_ble_eq_true rfl) (by decide) (by decide) (by decide) (by decide) ?_
          refine V_iconst (v := -1) dX4_firstOpen_35 (by decide) ?_
          refine V_icmp_ne 41 dX4_firstOpen_36 (by decide) (fun h36 => ?_) (fun h36 => ?_)
          · skip
            refine V_iinc dX4_firstOpen_41 rfl rfl (by decide) ?_
            refine V_goto 2 dX4_firstOpen_44 (by decide) ?_
            exact ih (i + 1) _ _ (by omega) (by omega) (nI_1 i) (by rw [hinv, fi_step hi, if_neg (by simp [pOpen, h36])])
          · skip
            refine V_iload_n dX4_firstOpen_39 rfl ?_
            refine V_iret dX4_firstOpen_40 rfl (by decide) (by decide) ?_
            have hb := bitAt_ne (by omega) (by omega) h20
            have hb2 : ¬ s ||| 2 ^ i = s := fun z => h26 (by rw [z])
            exact ⟨by rw [hinv, fi_step hi, if_pos (by simp [pOpen, hb, hb2, h36])], rfl⟩
set_option maxHeartbeats 4000000 in
set_option maxRecDepth 20000 in
theorem ct_X4_firstOpen (hw : WF E ad el g w0 ws) {n : Nat} (hn : g 8 7 = nI n) (hN : n ≤ 30) {G s : Nat} (hG : G < 1024) (hs : s < 1024) : Ct E yX4_firstOpen cX4_firstOpen 5 (some (.int)) 1 0 0 [.ref (ad 8), .int (nI G), .int (nI s)] ws (fun r w => r = some (.int (fi (pOpen g n G s) 10 0)) ∧ w = ws) := by
  refine Ct_of mw_X4_firstOpen rfl (Nat.le_of_ble_eq_true rfl) ?_
  refine V_iconst (v := 0) dX4_firstOpen_0 (by decide) ?_
  refine V_istore_n dX4_firstOpen_1 (by decide) ?_
  exact lp_X4_firstOpen hw hn hN hG hs 11 0 _ _ (by decide) (by decide) rfl rfl
set_option maxHeartbeats 4000000 in
set_option maxRecDepth 20000 in
theorem pl_end {n : Nat} (hn : g 8 7 = nI n) (hN : n ≤ 30) {G : Nat} (hG : G < 1024) {f : Nat → Int32} {s : Option Nat} (hw : WF E ad el (va_up g 19 f) w0 ws) (hp : plan g n G = (f, s)) (x : Int32) : V E yX4_plan cX4_plan 6 none 2 0 0 (fun r w => r = none ∧ WF E ad el (planG g n G) w0 w) 92 [some (.ref (ad 18)), some (.ref (ad 8)), some (.int (nI G)), some (.int (nI (popc G))), some (.int (sI s)), some (.int x)] [] ws 0 0 := by
  refine V_aload_n dX4_plan_92 rfl ?_
  refine V_iload dX4_plan_93 rfl ?_
  refine V_iconst (v := -1) dX4_plan_95 (by decide) ?_
  refine V_icmp_eq 103 dX4_plan_96 (by decide) (fun h96 => ?_) (fun h96 => ?_)
  · skip
    refine V_iconst (v := -1) dX4_plan_103 (by decide) ?_
    refine W_put (18) hw (by decide) fp_X4_15 dX4_plan_104 rfl rfl rfl rfl (Nat.le_of_ble_eq_true rfl) (fun ws1 hw1 => ?_)
    refine V_vret dX4_plan_107 rfl (by decide) (by decide) ?_
    exact ⟨rfl, by rw [planG, hp, if_pos h96]; exact hw1⟩
  · skip
    refine V_iload_n dX4_plan_99 rfl ?_
    refine V_goto 104 dX4_plan_100 (by decide) ?_
    refine W_put (18) hw (by decide) fp_X4_15 dX4_plan_104 rfl rfl rfl rfl (Nat.le_of_ble_eq_true rfl) (fun ws1 hw1 => ?_)
    refine V_vret dX4_plan_107 rfl (by decide) (by decide) ?_
    exact ⟨rfl, by rw [planG, hp, if_neg h96]; exact hw1⟩
set_option maxHeartbeats 4000000 in
set_option maxRecDepth 20000 in
theorem lp_X4_plan {n : Nat} (hn : g 8 7 = nI n) (hN : n ≤ 30) {G : Nat} (hG : G < 1024) : ∀ (k i : Nat) (x : Int32) (f : Nat → Int32) (s : Option Nat) (z : Int32) (ws : va_W), i ≤ 10 → 10 < i + k → x = nI i → z = sI s → (∀ s0, s = some s0 → s0 < 1024) → plan g n G = planL g n G (popc G) k i f s → WF E ad el (va_up g 19 f) w0 ws → V E yX4_plan cX4_plan 6 none 2 0 0 (fun r w => r = none ∧ WF E ad el (planG g n G) w0 w) 24 [some (.ref (ad 18)), some (.ref (ad 8)), some (.int (nI G)), some (.int (nI (popc G))), some (.int z), some (.int x)] [] ws 0 0 := by
  intro k
  induction k with
  | zero => intro i x f s z ws h1 h2; exact absurd h2 (by omega)
  | succ k ih =>
    intro i x f s z ws hil hin hx hz0 hsl hinv hw
    subst hx hz0
    refine V_iload dX4_plan_24 rfl ?_
    refine V_iload_n dX4_plan_26 rfl ?_
    refine V_icmp_ge 92 dX4_plan_27 (by decide) (fun h27 => ?_) (fun h27 => ?_)
    · skip
      have hi := leK (a := popc G) (b := i) (by have := popc_le G hG; omega) (by omega) h27
      refine pl_end hn hN hG hw ?_ _
      rw [hinv]
      cases s with
      | none => rfl
      | some s => rw [planL, if_pos hi]
    · skip
      refine V_iload dX4_plan_30 rfl ?_
      refine V_bipush (v := 10) dX4_plan_32 (by decide) ?_
      refine V_icmp_ge 92 dX4_plan_34 (by decide) (fun h34 => ?_) (fun h34 => ?_)
      · skip
        have := leK (a := 10) (b := i) (by decide) (by omega) h34
        have hi := nleK (a := popc G) (b := i) (by have := popc_le G hG; omega) (by omega) h27
        have := popc_le G hG
        exact absurd this (by omega)
      · skip
        refine V_iload dX4_plan_37 rfl ?_
        refine V_iconst (v := -1) dX4_plan_39 (by decide) ?_
        refine V_icmp_eq 92 dX4_plan_40 (by decide) (fun h40 => ?_) (fun h40 => ?_)
        · skip
          have hz : s = none := by
            cases s with
            | none => rfl
            | some s0 => exact absurd h40 (nI_ne_m1 (by have := hsl s0 rfl; omega))
          subst hz
          refine pl_end hn hN hG hw ?_ _
          rw [hinv]
          rfl
        · skip
          have hz : ∃ s0, s = some s0 := by
            cases s with
            | none => exact absurd rfl h40
            | some s0 => exact ⟨s0, rfl⟩
          obtain ⟨s0, rfl⟩ := hz
          have hs := hsl s0 rfl
          have hi := nleK (a := popc G) (b := i) (by have := popc_le G hG; omega) (by omega) h27
          have hpop := popc_le G hG
          refine V_aload_n dX4_plan_43 rfl ?_
          refine V_get (18) fl_X4_9 dX4_plan_44 hw.p18 rfl ?_
          refine V_iload dX4_plan_47 rfl ?_
          refine V_aload_n dX4_plan_49 rfl ?_
          refine V_iload_n dX4_plan_50 rfl ?_
          refine V_iload dX4_plan_51 rfl ?_
          refine V_rdS mw_X4_firstOpen ms_X4_30 dX4_plan_53 (ct_X4_firstOpen (g := va_up g 19 f) hw hn hN hG hs) rfl rfl (Nat.le_of_ble_eq_true rfl) (by decide) (by decide) (by decide) (by decide) ?_
          refine W_iastN (19) hw (by decide) (fun _ => rfl) dX4_plan_56 (by omega) (by decide) (fun ws1 hw1 => ?_)
          have hw1 : WF E ad el (va_up g 19 (upd f i (fi (pOpen g n G s0) 10 0))) w0 ws1 := by rw [← va_up_up g 19 f]; exact hw1
          refine V_aload_n dX4_plan_57 rfl ?_
          refine V_get (18) fl_X4_9 dX4_plan_58 hw1.p18 rfl ?_
          refine V_iload dX4_plan_61 rfl ?_
          refine V_ialdN (19) dX4_plan_63 hw1.p19 (by omega) (by decide) ?_
          rw [show va_up g 19 (upd f i (fi (pOpen g n G s0) 10 0)) 19 i = fi (pOpen g n G s0) 10 0 from pk_us]
          refine V_iconst (v := -1) dX4_plan_64 (by decide) ?_
          refine V_icmp_eq 83 dX4_plan_65 (by decide) (fun h65 => ?_) (fun h65 => ?_)
          · skip
            refine V_iconst (v := -1) dX4_plan_83 (by decide) ?_
            refine V_istore dX4_plan_84 (by decide) ?_
            refine V_iinc dX4_plan_86 rfl rfl (by decide) ?_
            refine V_goto 24 dX4_plan_89 (by decide) ?_
            exact ih (i + 1) _ (upd f i (fi (pOpen g n G s0) 10 0)) none _ _ (by omega) (by omega) (nI_1 i) rfl (fun _ h => by cases h) (by rw [hinv, planL, if_neg (by omega), if_pos h65, h65]; cases k with
              | zero => rfl
              | succ k => rfl) hw1
          · skip
            refine V_iload dX4_plan_68 rfl ?_
            refine V_iconst (v := 1) dX4_plan_70 (by decide) ?_
            refine V_aload_n dX4_plan_71 rfl ?_
            refine V_get (18) fl_X4_9 dX4_plan_72 hw1.p18 rfl ?_
            refine V_iload dX4_plan_75 rfl ?_
            refine V_ialdN (19) dX4_plan_77 hw1.p19 (by omega) (by decide) ?_
            rw [show va_up g 19 (upd f i (fi (pOpen g n G s0) 10 0)) 19 i = fi (pOpen g n G s0) 10 0 from pk_us]
            refine V_ishl dX4_plan_78 ?_
            refine V_ior dX4_plan_79 ?_
            refine V_goto 84 dX4_plan_80 (by decide) ?_
            refine V_istore dX4_plan_84 (by decide) ?_
            refine V_iinc dX4_plan_86 rfl rfl (by decide) ?_
            refine V_goto 24 dX4_plan_89 (by decide) ?_
            obtain ⟨q, -, hq, hqp, eq⟩ : ∃ q, 0 ≤ q ∧ q < 0 + 10 ∧ pOpen g n G s0 q = true ∧ fi (pOpen g n G s0) 10 0 = nI q := by
              rcases fi_some (P := pOpen g n G s0) 10 0 with h | h
              · exact absurd h h65
              · exact h
            exact ih (i + 1) _ (upd f i (fi (pOpen g n G s0) 10 0)) (some (s0 ||| 2 ^ q)) _ _ (by omega) (by omega) (nI_1 i) (by rw [eq, shl1 q (by omega)]; exact nx_or s0 (2 ^ q)) (fun s1 h => by cases h; exact or_lt hs (by omega)) (by rw [hinv, planL, if_neg (by omega), if_neg h65, eq, nI_clamp (by omega)]) hw1
set_option maxHeartbeats 4000000 in
set_option maxRecDepth 20000 in
theorem ct_X4_plan (hw : Wd E ad el g ws) {n : Nat} (hn : g 8 7 = nI n) (hN : n ≤ 30) {G : Nat} (hG : G < 1024) : Ct E yX4_plan cX4_plan 6 none 2 0 0 [.ref (ad 18), .ref (ad 8), .int (nI G)] ws (fun r w => r = none ∧ WF E ad el (planG g n G) ws w) := by
  refine Ct_of mw_X4_plan rfl (Nat.le_of_ble_eq_true rfl) ?_
  have hw := WF.rf hw
  refine V_iload_n dX4_plan_0 rfl ?_
  refine V_rdS mw_J6_bitCount_0f7a4 ms_X4_19 dX4_plan_1 (ct_bitCount hG) rfl rfl (Nat.le_of_ble_eq_true rfl) (by decide) (by decide) (by decide) (by decide) ?_
  refine V_istore_n dX4_plan_4 (by decide) ?_
  refine V_aload_n dX4_plan_5 rfl ?_
  refine V_iconst (v := 0) dX4_plan_6 (by decide) ?_
  refine V_rdV (8) mw_X1_firstBroken mv_X4_25 dX4_plan_7 (ct_X1_firstBroken hw 0 hn hN) hw.p8 rfl rfl rfl (Nat.le_of_ble_eq_true rfl) (by decide) (by decide) (by decide) (by decide) ?_
  refine V_iconst (v := -1) dX4_plan_10 (by decide) ?_
  refine V_icmp_ne 18 dX4_plan_11 (by decide) (fun h11 => ?_) (fun h11 => ?_)
  · skip
    refine V_iconst (v := -1) dX4_plan_18 (by decide) ?_
    refine V_istore dX4_plan_19 (by decide) ?_
    refine V_iconst (v := 0) dX4_plan_21 (by decide) ?_
    refine V_istore dX4_plan_22 (by decide) ?_
    exact lp_X4_plan hn hN hG 11 0 _ (g 19) none _ ws (by decide) (by decide) rfl rfl (fun _ h => by cases h) (by rw [plan, if_neg h11]) (by rw [va_up_id]; exact hw)
  · skip
    refine V_iconst (v := 0) dX4_plan_14 (by decide) ?_
    refine V_goto 19 dX4_plan_15 (by decide) ?_
    refine V_istore dX4_plan_19 (by decide) ?_
    refine V_iconst (v := 0) dX4_plan_21 (by decide) ?_
    refine V_istore dX4_plan_22 (by decide) ?_
    exact lp_X4_plan hn hN hG 11 0 _ (g 19) (some 0) _ ws (by decide) (by decide) rfl rfl (fun _ h => by cases h; decide) (by rw [plan, if_pos h11]) (by rw [va_up_id]; exact hw)
end RTE
