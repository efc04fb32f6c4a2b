/-! ===== the reference: order, send ===== -/
/-- bo: is there an order -/
def OrdOK (g : Nat → Nat → Int32) (nN nP C : Nat) (bo : Bool) : Prop := (bo = true → ¬ g 25 25 = 0 ∧ mBrk g nN 0 = -1 ∧ gOK g nN nP C 10 0) ∧ (bo = false → g 25 25 = 0 ∨ ¬ mBrk g nN 0 = -1 ∨ ¬ rch g nN nP C 10 0)
abbrev rowT (g : Nat → Nat → Int32) (nN nP C : Nat) : (Nat → Int32) × Nat := rowL g nN nP C 10 0 0 (g 45)
def mOrder (g : Nat → Nat → Int32) (nN nP C : Nat) (bo : Bool) (i : Int32) : Int32 := if bo = true then if i < 0 then -1 else if nI (rowT g nN nP C).2 ≤ i then -1 else (rowT g nN nP C).1 i.toNatClampNeg else -1
theorem rowL_le {g : Nat → Nat → Int32} {nN nP C : Nat} : ∀ (k s m : Nat) (f : Nat → Int32), (rowL g nN nP C k s m f).2 ≤ m + k
  | 0, _, _, _ => Nat.le_refl _
  | k + 1, s, m, f => by
    unfold rowL
    split
    · exact Nat.le_add_right _ _
    · have := rowL_le (g := g) (nN := nN) (nP := nP) (C := C) k (s ||| 2 ^ (fi (mOpen g nN C s) nP 0).toNatClampNeg) (m + 1) (upd f m (fi (mOpen g nN C s) nP 0))
      omega
/-- sending: the parts below p are through -/
def sdS1 (g : Nat → Nat → Int32) (t C p : Nat) : Nat → Nat → Int32 := if C.testBit p = true then va_up (va_up (va_up g 41 (upd (g 41) (10 * t + p) (g 26 p))) 26 (upd (g 26) p (g 27 p))) 27 (upd (g 27) p (-1)) else va_up g 41 (upd (g 41) (10 * t + p) (g 26 p))
def sdStep (g : Nat → Nat → Int32) (t C p : Nat) : Nat → Nat → Int32 := va_up (sdS1 g t C p) 42 (upd (sdS1 g t C p 42) (10 * t + p) (sdS1 g t C p 26 p))
def sdL (g : Nat → Nat → Int32) (t C : Nat) : Nat → Nat → Nat → Int32
  | 0 => g
  | p + 1 => sdStep (sdL g t C p) t C p
theorem sdS1_k (g : Nat → Nat → Int32) (t C p k : Nat) (h1 : k ≠ 41) (h2 : k ≠ 26) (h3 : k ≠ 27) : sdS1 g t C p k = g k := by
  unfold sdS1
  split
  · rw [va_up_ne _ _ h3, va_up_ne _ _ h2, va_up_ne _ _ h1]
  · rw [va_up_ne _ _ h1]
theorem sdL_k (g : Nat → Nat → Int32) (t C k : Nat) (h1 : k ≠ 41) (h2 : k ≠ 26) (h3 : k ≠ 27) (h4 : k ≠ 42) : ∀ p, sdL g t C p k = g k
  | 0 => rfl
  | p + 1 => by
    unfold sdL sdStep
    rw [va_up_ne _ _ h4, sdS1_k _ _ _ _ _ h1 h2 h3]
    exact sdL_k g t C k h1 h2 h3 h4 p
/-- a train's row begun -/
def sdG0 (g : Nat → Nat → Int32) (t : Nat) : Nat → Nat → Int32 := va_up (va_up (va_up g 39 (upd (g 39) t (g 25 19))) 40 (upd (g 40) t (g 25 24))) 43 (upd (g 43) t 0)
def sdG (g : Nat → Nat → Int32) (t C nP : Nat) : Nat → Nat → Int32 := va_up (sdL (sdG0 g t) t C nP) 25 (upd (sdL (sdG0 g t) t C nP 25) 23 (sdL (sdG0 g t) t C nP 25 23 + 1))
section MD6
variable {E : VE} {ad : Nat → Nat} {el : Nat} {g : Nat → Nat → Int32} {w0 ws : va_W}
set_option maxHeartbeats 4000000 in
set_option maxRecDepth 20000 in
theorem or_end {nP : Nat} (hP : g 25 19 = nI nP) (hP10 : nP ≤ 10) {nN : Nat} (hN : g 25 20 = nI nN) (hN30 : nN ≤ 30) (hok : MNOK g nN) {C : Nat} (hC : C < 1024) (eC : g 25 24 = nI C) {bo : Bool} (hbo : OrdOK g nN nP C bo) (hcut : ¬ g 25 25 = 0) (hbr : mBrk g nN 0 = -1) {a : Nat → Int32} (ha : ∀ t, t < 1024 → a t = 0) (z : Option Value) (hw : WF E ad el (sc g a (g 45) (g 25 30)) w0 ws) : V E yX8_orders cX8_orders 2 (some (.boolean)) 14 0 0 (fun r w => r = some (.int (bI bo)) ∧ ∃ a f rm, WF E ad el (sc g a f rm) w0 w ∧ (bo = true → f = (rowT g nN nP C).1 ∧ rm = nI (rowT g nN nP C).2)) 40 [some (.ref (ad 25)), z] [] ws 0 0 := by
  cases bo with
  | true =>
    obtain ⟨-, -, hgo⟩ := hbo.1 rfl
    refine V_aload_n dX8_orders_40 rfl ?_
    refine V_iconst (v := 0) dX8_orders_41 (by decide) ?_
    refine V_iconst (v := 0) dX8_orders_42 (by decide) ?_
    refine V_callV (25) mw_X8_goesOut mv_X8_142 dX8_orders_43 (ct_goA hP hP10 hN hN30 hok hC eC 10 0 0 (by decide) (fun i h => by simp at h) (popc_le _ (dif_lt hC)) (by decide) hgo (fun t _ ht => ha t ht) hw) hw.p25 rfl rfl rfl (Nat.le_of_ble_eq_true rfl) (by first | decide | omega) (by decide) (by decide) (by decide) (fun r43 ws1 hp43 => ?_)
    obtain ⟨rfl, a2, hw1⟩ := hp43
    have hw1 := hw.trans hw1
    refine V_zret dX8_orders_46 rfl (by first | exact Or.inl rfl | exact Or.inr rfl) (by decide) (by decide) ?_
    exact ⟨rfl, _, _, _, hw1, fun _ => ⟨rfl, rfl⟩⟩
  | false =>
    have hnr : ¬ rch g nN nP C 10 0 := by
      rcases hbo.2 rfl with q | q | q
      · exact absurd q hcut
      · exact absurd hbr q
      · exact q
    refine V_aload_n dX8_orders_40 rfl ?_
    refine V_iconst (v := 0) dX8_orders_41 (by decide) ?_
    refine V_iconst (v := 0) dX8_orders_42 (by decide) ?_
    refine V_callV (25) mw_X8_goesOut mv_X8_142 dX8_orders_43 (ct_goB hP hP10 hN hN30 hok hC eC 10 0 0 (by decide) (fun i h => by simp at h) (popc_le _ (dif_lt hC)) (by decide) hnr hw) hw.p25 rfl rfl rfl (Nat.le_of_ble_eq_true rfl) (by first | decide | omega) (by decide) (by decide) (by decide) (fun r43 ws1 hp43 => ?_)
    obtain ⟨rfl, a2, b2, r2, hw1⟩ := hp43
    have hw1 := hw.trans hw1
    refine V_zret dX8_orders_46 rfl (by first | exact Or.inl rfl | exact Or.inr rfl) (by decide) (by decide) ?_
    exact ⟨rfl, _, _, _, hw1, fun h => by cases h⟩
set_option maxHeartbeats 4000000 in
set_option maxRecDepth 20000 in
theorem lp_X8_orders {nP : Nat} (hP : g 25 19 = nI nP) (hP10 : nP ≤ 10) {nN : Nat} (hN : g 25 20 = nI nN) (hN30 : nN ≤ 30) (hok : MNOK g nN) {C : Nat} (hC : C < 1024) (eC : g 25 24 = nI C) {bo : Bool} (hbo : OrdOK g nN nP C bo) (hcut : ¬ g 25 25 = 0) (hbr : mBrk g nN 0 = -1) : ∀ (k i : Nat) (x : Int32) (a : Nat → Int32) (ws : va_W), i ≤ 1024 → 1024 < i + k → x = nI i → (∀ t, t < i → a t = 0) → WF E ad el (sc g a (g 45) (g 25 30)) w0 ws → V E yX8_orders cX8_orders 2 (some (.boolean)) 14 0 0 (fun r w => r = some (.int (bI bo)) ∧ ∃ a f rm, WF E ad el (sc g a f rm) w0 w ∧ (bo = true → f = (rowT g nN nP C).1 ∧ rm = nI (rowT g nN nP C).2)) 20 [some (.ref (ad 25)), some (.int x)] [] ws 0 0 := by
  intro k
  induction k with
  | zero => intro i x a ws h1 h2; exact absurd h2 (by omega)
  | succ k ih =>
    intro i x a ws hil hin hx ha hw
    subst hx
    refine V_iload_n dX8_orders_20 rfl ?_
    refine V_sipush (v := 1024) dX8_orders_21 (by decide) ?_
    refine V_icmp_ge 40 dX8_orders_24 (by decide) (fun h24 => ?_) (fun h24 => ?_)
    · skip
      have hi := leK (a := 1024) (b := i) (by decide) (by omega) h24
      exact or_end hP hP10 hN hN30 hok hC eC hbo hcut hbr (fun t ht => ha t (by omega)) _ hw
    · skip
      have hi := nleK (a := 1024) (b := i) (by decide) (by omega) h24
      refine V_aload_n dX8_orders_27 rfl ?_
      refine V_get (25) fl_X8_65 dX8_orders_28 hw.p25 rfl ?_
      refine V_iload_n dX8_orders_31 rfl ?_
      refine V_iconst (v := 0) dX8_orders_32 (by decide) ?_
      refine W_zastN (44) hw (by decide) (fun _ => rfl) dX8_orders_33 (by omega) (by first | decide | omega) (fun ws1 hw1 => ?_)
      rw [sc_44] at hw1
      have hw1 : WF E ad el (sc g (upd a i 0) (g 45) (g 25 30)) w0 ws1 := hw1
      refine V_iinc dX8_orders_34 rfl rfl (by decide) ?_
      refine V_goto 20 dX8_orders_37 (by decide) ?_
      exact ih (i + 1) _ _ _ (by omega) (by omega) (nI_1 i) (fun t ht => by
        by_cases e : t = i
        · subst e; exact pk_us
        · rw [pk_un e]; exact ha t (by omega)) hw1
set_option maxHeartbeats 4000000 in
set_option maxRecDepth 20000 in
theorem ct_X8_orders (hw : Wd E ad el g ws) {nP : Nat} (hP : g 25 19 = nI nP) (hP10 : nP ≤ 10) {nN : Nat} (hN : g 25 20 = nI nN) (hN30 : nN ≤ 30) (hok : MNOK g nN) {C : Nat} (hC : C < 1024) (eC : g 25 24 = nI C) {bo : Bool} (hbo : OrdOK g nN nP C bo) : Ct E yX8_orders cX8_orders 2 (some (.boolean)) 14 0 0 [.ref (ad 25)] ws (fun r w => r = some (.int (bI bo)) ∧ ∃ a f rm, WF E ad el (sc g a f rm) ws w ∧ (bo = true → f = (rowT g nN nP C).1 ∧ rm = nI (rowT g nN nP C).2)) := by
  refine Ct_of mw_X8_orders rfl (Nat.le_of_ble_eq_true rfl) ?_
  have hw := WF.rf hw
  refine V_aload_n dX8_orders_0 rfl ?_
  refine V_get (25) fl_X8_78 dX8_orders_1 hw.p25 rfl ?_
  refine V_if_eq 16 dX8_orders_4 (by decide) (fun h4 => ?_) (fun h4 => ?_)
  · skip
    refine V_iconst (v := 0) dX8_orders_16 (by decide) ?_
    refine V_zret dX8_orders_17 rfl (by first | exact Or.inl rfl | exact Or.inr rfl) (by decide) (by decide) ?_
    have e : bo = false := by
      cases bo with
      | false => rfl
      | true => exact absurd h4 (hbo.1 rfl).1
    subst e
    exact ⟨rfl, _, _, _, (sc_self g).symm ▸ hw, fun h => by cases h⟩
  · skip
    refine V_aload_n dX8_orders_7 rfl ?_
    refine V_iconst (v := 0) dX8_orders_8 (by decide) ?_
    refine V_rdV (25) mw_X8_broken mv_X8_114 dX8_orders_9 (ct_X8_broken hw hN hN30 hok 0) hw.p25 rfl rfl rfl (Nat.le_of_ble_eq_true rfl) (by first | decide | omega) (by decide) (by decide) (by decide) ?_
    refine V_iconst (v := -1) dX8_orders_12 (by decide) ?_
    refine V_icmp_eq 18 dX8_orders_13 (by decide) (fun h13 => ?_) (fun h13 => ?_)
    · skip
      refine V_iconst (v := 0) dX8_orders_18 (by decide) ?_
      refine V_istore_n dX8_orders_19 (by decide) ?_
      exact lp_X8_orders hP hP10 hN hN30 hok hC eC hbo h4 h13 1025 0 _ (g 44) _ (by decide) (by decide) rfl (fun t ht => absurd ht (Nat.not_lt_zero _)) ((sc_self g).symm ▸ hw)
    · skip
      refine V_iconst (v := 0) dX8_orders_16 (by decide) ?_
      refine V_zret dX8_orders_17 rfl (by first | exact Or.inl rfl | exact Or.inr rfl) (by decide) (by decide) ?_
      have e : bo = false := by
        cases bo with
        | false => rfl
        | true => exact absurd (hbo.1 rfl).2.1 h13
      subst e
      exact ⟨rfl, _, _, _, (sc_self g).symm ▸ hw, fun h => by cases h⟩
set_option maxHeartbeats 4000000 in
set_option maxRecDepth 20000 in
theorem ct_X8_order (hw : Wd E ad el g ws) {nP : Nat} (hP : g 25 19 = nI nP) (hP10 : nP ≤ 10) {nN : Nat} (hN : g 25 20 = nI nN) (hN30 : nN ≤ 30) (hok : MNOK g nN) {C : Nat} (hC : C < 1024) (eC : g 25 24 = nI C) {bo : Bool} (hbo : OrdOK (T0 g) nN nP C bo) (i : Int32) : Ct E yX8_order cX8_order 2 (some (.int)) 15 0 0 [.ref (ad 25), .int i] ws (fun r w => r = some (.int (mOrder (T0 g) nN nP C bo i)) ∧ ∃ a f rm, WF E ad el (sc (T0 g) a f rm) ws w) := by
  refine Ct_of mw_X8_order rfl (Nat.le_of_ble_eq_true rfl) ?_
  have hw := WF.rf hw
  refine V_aload_n dX8_order_0 rfl ?_
  refine V_iconst (v := 0) dX8_order_1 (by decide) ?_
  refine W_put (25) hw (by decide) fp_X8_71 dX8_order_2 rfl rfl rfl rfl (Nat.le_of_ble_eq_true rfl) (fun ws1 hw1 => ?_)
  have hw1 : WF E ad el (T0 g) ws ws1 := hw1
  refine V_aload_n dX8_order_5 rfl ?_
  refine V_callV (25) mw_X8_orders mv_X8_145 dX8_order_6 (ct_X8_orders (g := T0 g) hw1.1 hP hP10 hN hN30 hok hC eC hbo) hw1.p25 rfl rfl rfl (Nat.le_of_ble_eq_true rfl) (by first | decide | omega) (by decide) (by decide) (by decide) (fun r6 ws2 hp6 => ?_)
  obtain ⟨rfl, a, f, rm, hw2, hbt⟩ := hp6
  have hw2 := hw1.trans hw2
  refine V_if_eq 33 dX8_order_9 (by decide) (fun h9 => ?_) (fun h9 => ?_)
  · skip
    refine V_iconst (v := -1) dX8_order_33 (by decide) ?_
    refine V_iret dX8_order_34 rfl (by decide) (by decide) ?_
    exact ⟨by rw [mOrder, if_neg (nb (bI_0 h9))], _, _, _, hw2⟩
  · skip
    obtain ⟨rfl, rfl⟩ := hbt (bI_1 h9)
    have hle : (rowT (T0 g) nN nP C).2 ≤ 10 := by have := rowL_le (g := T0 g) (nN := nN) (nP := nP) (C := C) 10 0 0 (T0 g 45); omega
    refine V_iload_n dX8_order_12 rfl ?_
    refine V_if_lt 33 dX8_order_13 (by decide) (fun h13 => ?_) (fun h13 => ?_)
    · skip
      refine V_iconst (v := -1) dX8_order_33 (by decide) ?_
      refine V_iret dX8_order_34 rfl (by decide) (by decide) ?_
      exact ⟨by rw [mOrder, if_pos (bI_1 h9), if_pos h13], _, _, _, hw2⟩
    · skip
      refine V_iload_n dX8_order_16 rfl ?_
      refine V_aload_n dX8_order_17 rfl ?_
      refine V_get (25) fl_X8_139 dX8_order_18 hw2.p25 rfl ?_
      refine V_icmp_ge 33 dX8_order_21 (by decide) (fun h21 => ?_) (fun h21 => ?_)
      · skip
        refine V_iconst (v := -1) dX8_order_33 (by decide) ?_
        refine V_iret dX8_order_34 rfl (by decide) (by decide) ?_
        have h21 : nI (rowT (T0 g) nN nP C).2 ≤ i := h21
        exact ⟨by rw [mOrder, if_pos (bI_1 h9), if_neg h13, if_pos h21], _, _, _, hw2⟩
      · skip
        refine V_aload_n dX8_order_24 rfl ?_
        refine V_get (25) fl_X8_68 dX8_order_25 hw2.p25 rfl ?_
        refine V_iload_n dX8_order_28 rfl ?_
        refine V_iald (45) dX8_order_29 hw2.p45 (by obtain ⟨j, hj, rfl⟩ := nI_of h13; exact vp_in_nI (by have := nleK (a := (rowT (T0 g) nN nP C).2) (b := j) (by omega) hj h21; omega) (by decide)) ?_
        refine V_goto 34 dX8_order_30 (by decide) ?_
        refine V_iret dX8_order_34 rfl (by decide) (by decide) ?_
        have h21 : ¬ nI (rowT (T0 g) nN nP C).2 ≤ i := h21
        exact ⟨by rw [mOrder, if_pos (bI_1 h9), if_neg h13, if_neg h21]; rfl, _, _, _, hw2⟩
set_option maxHeartbeats 4000000 in
set_option maxRecDepth 20000 in
theorem sd_lp {nP : Nat} (hP : g 25 19 = nI nP) (hP10 : nP ≤ 10) {t : Nat} (hR : g 25 23 = nI t) (ht : t < 60) {C : Nat} (hC : C < 1024) (eC : g 25 24 = nI C) {Po : Option Value → va_W → Prop} (K : ∀ (x : Int32) (ws : va_W), WF E ad el (sdL g t C nP) w0 ws → V E yX8_send cX8_send 2 (some (.int)) 15 0 0 Po 145 [some (.ref (ad 25)), some (.int x)] [] ws 0 0) : ∀ (k p : Nat) (x : Int32) (ws : va_W), p ≤ nP → nP < p + k → x = nI p → WF E ad el (sdL g t C p) w0 ws → V E yX8_send cX8_send 2 (some (.int)) 15 0 0 Po 61 [some (.ref (ad 25)), some (.int x)] [] ws 0 0 := by
  intro k
  induction k with
  | zero => intro p x ws h1 h2; exact absurd h2 (by omega)
  | succ k ih =>
    intro p x ws hpl hpn hx hw
    subst hx
    refine V_iload_n dX8_send_61 rfl ?_
    refine V_aload_n dX8_send_62 rfl ?_
    refine V_get (25) fl_X8_75 dX8_send_63 hw.p25 rfl ?_
    refine V_icmp_ge 145 dX8_send_66 (by decide) (fun h66 => ?_) (fun h66 => ?_)
    · skip
      rw [show sdL g t C p 25 = g 25 from sdL_k g t C 25 (by decide) (by decide) (by decide) (by decide) p, hP] at h66
      have hp : p = nP := by have := leK (a := nP) (b := p) (by omega) (by omega) h66; omega
      subst hp
      exact K _ _ hw
    · skip
      rw [show sdL g t C p 25 = g 25 from sdL_k g t C 25 (by decide) (by decide) (by decide) (by decide) p, hP] at h66
      have hp := nleK (a := nP) (b := p) (by omega) (by omega) h66
      refine V_aload_n dX8_send_69 rfl ?_
      refine V_get (25) fl_X8_55 dX8_send_70 hw.p25 rfl ?_
      refine V_bipush (v := 10) dX8_send_73 (by decide) ?_
      refine V_aload_n dX8_send_75 rfl ?_
      refine V_get (25) fl_X8_149 dX8_send_76 hw.p25 rfl ?_
      rw [show sdL g t C p 25 = g 25 from sdL_k g t C 25 (by decide) (by decide) (by decide) (by decide) p, hR]
      refine V_imul dX8_send_79 ?_
      refine V_iload_n dX8_send_80 rfl ?_
      refine V_iadd dX8_send_81 ?_
      rw [show (10 : Int32) * nI t = nI (10 * t) from pk_mul 10 t, nI_add]
      refine V_aload_n dX8_send_82 rfl ?_
      refine V_get (25) fl_X8_9 dX8_send_83 hw.p25 rfl ?_
      refine V_iload_n dX8_send_86 rfl ?_
      refine V_ialdN (26) dX8_send_87 hw.p26 (by omega) (by first | decide | omega) ?_
      refine W_iastN (41) hw (by decide) (fun _ => rfl) dX8_send_88 (by omega) (by first | decide | omega) (fun ws1 hw1 => ?_)
      refine V_aload_n dX8_send_89 rfl ?_
      refine V_get (25) fl_X8_90 dX8_send_90 hw1.p25 rfl ?_
      rw [show (va_up (sdL g t C p) 41 (upd (sdL g t C p 41) (10 * t + p) (sdL g t C p 26 p))) 25 24 = nI C from by show sdL g t C p 25 24 = _; rw [show sdL g t C p 25 = g 25 from sdL_k g t C 25 (by decide) (by decide) (by decide) (by decide) p]; exact eC]
      refine V_iload_n dX8_send_93 rfl ?_
      refine V_rdS mw_X8_isOf ms_X8_93 dX8_send_94 (ct_X8_isOf _ _) rfl rfl (Nat.le_of_ble_eq_true rfl) (by first | decide | omega) (by decide) (by decide) (by decide) ?_
      refine V_if_eq 119 dX8_send_97 (by decide) (fun h97 => ?_) (fun h97 => ?_)
      · skip
        
        refine V_aload_n dX8_send_119 rfl ?_
        refine V_get (25) fl_X8_58 dX8_send_120 hw1.p25 rfl ?_
        refine V_bipush (v := 10) dX8_send_123 (by decide) ?_
        refine V_aload_n dX8_send_125 rfl ?_
        refine V_get (25) fl_X8_149 dX8_send_126 hw1.p25 rfl ?_
        rw [show (va_up (sdL g t C p) 41 (upd (sdL g t C p 41) (10 * t + p) (sdL g t C p 26 p))) 25 23 = nI t from by show sdL g t C p 25 23 = _; rw [show sdL g t C p 25 = g 25 from sdL_k g t C 25 (by decide) (by decide) (by decide) (by decide) p]; exact hR]
        refine V_imul dX8_send_129 ?_
        refine V_iload_n dX8_send_130 rfl ?_
        refine V_iadd dX8_send_131 ?_
        rw [show (10 : Int32) * nI t = nI (10 * t) from pk_mul 10 t, nI_add]
        refine V_aload_n dX8_send_132 rfl ?_
        refine V_get (25) fl_X8_9 dX8_send_133 hw1.p25 rfl ?_
        refine V_iload_n dX8_send_136 rfl ?_
        refine V_ialdN (26) dX8_send_137 hw1.p26 (by omega) (by first | decide | omega) ?_
        refine W_iastN (42) hw1 (by decide) (fun _ => rfl) dX8_send_138 (by omega) (by first | decide | omega) (fun ws2 hw2 => ?_)
        refine V_iinc dX8_send_139 rfl rfl (by decide) ?_
        refine V_goto 61 dX8_send_142 (by decide) ?_
        have hb := bI_0 h97
        rw [isOfB_bit (by omega) (by omega)] at hb
        exact ih (p + 1) _ _ (by omega) (by omega) (nI_1 p) (by rw [sdL, sdStep, sdS1, if_neg (nb hb)]; exact hw2)
      · skip
        refine V_aload_n dX8_send_100 rfl ?_
        refine V_get (25) fl_X8_9 dX8_send_101 hw1.p25 rfl ?_
        refine V_iload_n dX8_send_104 rfl ?_
        refine V_aload_n dX8_send_105 rfl ?_
        refine V_get (25) fl_X8_13 dX8_send_106 hw1.p25 rfl ?_
        refine V_iload_n dX8_send_109 rfl ?_
        refine V_ialdN (27) dX8_send_110 hw1.p27 (by omega) (by first | decide | omega) ?_
        refine W_iastN (26) hw1 (by decide) (fun _ => rfl) dX8_send_111 (by omega) (by first | decide | omega) (fun ws2 hw2 => ?_)
        refine V_aload_n dX8_send_112 rfl ?_
        refine V_get (25) fl_X8_13 dX8_send_113 hw2.p25 rfl ?_
        refine V_iload_n dX8_send_116 rfl ?_
        refine V_iconst (v := -1) dX8_send_117 (by decide) ?_
        refine W_iastN (27) hw2 (by decide) (fun _ => rfl) dX8_send_118 (by omega) (by first | decide | omega) (fun ws3 hw3 => ?_)
        have hw3 : WF E ad el (va_up (va_up (va_up (sdL g t C p) 41 (upd (sdL g t C p 41) (10 * t + p) (sdL g t C p 26 p))) 26 (upd (sdL g t C p 26) p (sdL g t C p 27 p))) 27 (upd (sdL g t C p 27) p (-1))) w0 ws3 := hw3
        refine V_aload_n dX8_send_119 rfl ?_
        refine V_get (25) fl_X8_58 dX8_send_120 hw3.p25 rfl ?_
        refine V_bipush (v := 10) dX8_send_123 (by decide) ?_
        refine V_aload_n dX8_send_125 rfl ?_
        refine V_get (25) fl_X8_149 dX8_send_126 hw3.p25 rfl ?_
        rw [show (va_up (va_up (va_up (sdL g t C p) 41 (upd (sdL g t C p 41) (10 * t + p) (sdL g t C p 26 p))) 26 (upd (sdL g t C p 26) p (sdL g t C p 27 p))) 27 (upd (sdL g t C p 27) p (-1))) 25 23 = nI t from by show sdL g t C p 25 23 = _; rw [show sdL g t C p 25 = g 25 from sdL_k g t C 25 (by decide) (by decide) (by decide) (by decide) p]; exact hR]
        refine V_imul dX8_send_129 ?_
        refine V_iload_n dX8_send_130 rfl ?_
        refine V_iadd dX8_send_131 ?_
        rw [show (10 : Int32) * nI t = nI (10 * t) from pk_mul 10 t, nI_add]
        refine V_aload_n dX8_send_132 rfl ?_
        refine V_get (25) fl_X8_9 dX8_send_133 hw3.p25 rfl ?_
        refine V_iload_n dX8_send_136 rfl ?_
        refine V_ialdN (26) dX8_send_137 hw3.p26 (by omega) (by first | decide | omega) ?_
        refine W_iastN (42) hw3 (by decide) (fun _ => rfl) dX8_send_138 (by omega) (by first | decide | omega) (fun ws4 hw4 => ?_)
        refine V_iinc dX8_send_139 rfl rfl (by decide) ?_
        refine V_goto 61 dX8_send_142 (by decide) ?_
        have hb := bI_1 h97
        rw [isOfB_bit (by omega) (by omega)] at hb
        exact ih (p + 1) _ _ (by omega) (by omega) (nI_1 p) (by rw [sdL, sdStep, sdS1, if_pos hb]; exact hw4)
def mSend (g : Nat → Nat → Int32) (nP nR C : Nat) (bo : Bool) (S : Nat → Nat → Int32) : Int32 × (Nat → Nat → Int32) := if nR = 60 then (-1, g) else if bo = true then (nI nR, nxG (sdG S nR C nP) nP) else (-1, S)
set_option maxHeartbeats 4000000 in
set_option maxRecDepth 20000 in
theorem sd_end {nP : Nat} (hP : g 25 19 = nI nP) (hP10 : nP ≤ 10) {nR : Nat} (hR : g 25 23 = nI nR) (hR60 : nR ≤ 60) (hne : ¬ nR = 60) {C : Nat} {bo : Bool} {a f : Nat → Int32} {rm : Int32} {x : Int32} (hw : WF E ad el (sdL (sdG0 (sc (T0 g) a f rm) nR) nR C nP) w0 ws) (hb : bo = true) : V E yX8_send cX8_send 2 (some (.int)) 15 0 0 (fun r w => (nR = 60 ∧ r = some (.int (-1)) ∧ WF E ad el (T0 g) w0 w) ∨ (¬ nR = 60 ∧ ∃ a f rm, (bo = false ∧ r = some (.int (-1)) ∧ WF E ad el (sc (T0 g) a f rm) w0 w) ∨ (bo = true ∧ r = some (.int (nI nR)) ∧ WF E ad el (nxG (sdG (sc (T0 g) a f rm) nR C nP) nP) w0 w))) 145 [some (.ref (ad 25)), some (.int x)] [] ws 0 0 := by
  refine V_aload_n dX8_send_145 rfl ?_
  refine V_dup dX8_send_146 rfl ?_
  refine V_get (25) fl_X8_149 dX8_send_147 hw.p25 rfl ?_
  refine V_iconst (v := 1) dX8_send_150 (by decide) ?_
  refine V_iadd dX8_send_151 ?_
  refine W_put (25) hw (by decide) fp_X8_149 dX8_send_152 rfl rfl rfl rfl (Nat.le_of_ble_eq_true rfl) (fun ws1 hw1 => ?_)
  have hw1 : WF E ad el (sdG (sc (T0 g) a f rm) nR C nP) w0 ws1 := hw1
  have k25 : sdL (sdG0 (sc (T0 g) a f rm) nR) nR C nP 25 = sc (T0 g) a f rm 25 := sdL_k _ nR C 25 (by decide) (by decide) (by decide) (by decide) nP
  have s25 : sdG (sc (T0 g) a f rm) nR C nP 25 = upd (sdL (sdG0 (sc (T0 g) a f rm) nR) nR C nP 25) 23 (sdL (sdG0 (sc (T0 g) a f rm) nR) nR C nP 25 23 + 1) := va_up_self _ _ _
  have hP2 : sdG (sc (T0 g) a f rm) nR C nP 25 19 = nI nP := by
    rw [s25, pk_un (by decide), k25]
    exact hP
  refine V_aload_n dX8_send_155 rfl ?_
  refine V_callV (25) mw_X8_next mv_X8_152 dX8_send_156 (ct_X8_next (g := sdG (sc (T0 g) a f rm) nR C nP) hw1.1 hP2 hP10) hw1.p25 rfl rfl rfl (Nat.le_of_ble_eq_true rfl) (by first | decide | omega) (by decide) (by decide) (by decide) (fun r156 ws2 hp156 => ?_)
  obtain ⟨rfl, hw2⟩ := hp156
  have hw2 := hw1.trans hw2
  refine V_aload_n dX8_send_159 rfl ?_
  refine V_get (25) fl_X8_149 dX8_send_160 hw2.p25 rfl ?_
  rw [show nxG (sdG (sc (T0 g) a f rm) nR C nP) nP 25 23 = nI (nR + 1) from by
    rw [nxG_25, pk_un (by decide), s25, pk_us, k25, show sc (T0 g) a f rm 25 23 = nI nR from hR]
    exact nI_1 nR]
  refine V_iconst (v := 1) dX8_send_163 (by decide) ?_
  refine V_isub dX8_send_164 ?_
  refine V_iret dX8_send_165 rfl (by decide) (by decide) ?_
  rw [show nI (nR + 1) - (1 : Int32) = nI nR from nI_pred nR]
  exact Or.inr ⟨hne, a, f, rm, Or.inr ⟨hb, rfl, hw2⟩⟩
set_option maxHeartbeats 4000000 in
set_option maxRecDepth 20000 in
theorem ct_X8_send (hw : Wd E ad el g ws) {nP : Nat} (hP : g 25 19 = nI nP) (hP10 : nP ≤ 10) {nN : Nat} (hN : g 25 20 = nI nN) (hN30 : nN ≤ 30) (hok : MNOK g nN) {C : Nat} (hC : C < 1024) (eC : g 25 24 = nI C) {nR : Nat} (hR : g 25 23 = nI nR) (hR60 : nR ≤ 60) {bo : Bool} (hbo : OrdOK (T0 g) nN nP C bo) : Ct E yX8_send cX8_send 2 (some (.int)) 15 0 0 [.ref (ad 25)] ws (fun r w => (nR = 60 ∧ r = some (.int (-1)) ∧ WF E ad el (T0 g) ws w) ∨ (¬ nR = 60 ∧ ∃ a f rm, (bo = false ∧ r = some (.int (-1)) ∧ WF E ad el (sc (T0 g) a f rm) ws w) ∨ (bo = true ∧ r = some (.int (nI nR)) ∧ WF E ad el (nxG (sdG (sc (T0 g) a f rm) nR C nP) nP) ws w))) := by
  refine Ct_of mw_X8_send rfl (Nat.le_of_ble_eq_true rfl) ?_
  have hw := WF.rf hw
  refine V_aload_n dX8_send_0 rfl ?_
  refine V_iconst (v := 0) dX8_send_1 (by decide) ?_
  refine W_put (25) hw (by decide) fp_X8_71 dX8_send_2 rfl rfl rfl rfl (Nat.le_of_ble_eq_true rfl) (fun ws1 hw1 => ?_)
  have hw1 : WF E ad el (T0 g) ws ws1 := hw1
  refine V_aload_n dX8_send_5 rfl ?_
  refine V_get (25) fl_X8_149 dX8_send_6 hw1.p25 rfl ?_
  refine V_bipush (v := 60) dX8_send_9 (by decide) ?_
  refine V_icmp_eq 21 dX8_send_11 (by decide) (fun h11 => ?_) (fun h11 => ?_)
  · skip
    refine V_iconst (v := -1) dX8_send_21 (by decide) ?_
    refine V_iret dX8_send_22 rfl (by decide) (by decide) ?_
    have e : nR = 60 := (nI_eq (a := nR) (b := 60) (by omega) (by decide)).mp ((show T0 g 25 23 = nI nR from hR).symm.trans h11)
    exact Or.inl ⟨e, rfl, hw1⟩
  · skip
    have hne : ¬ nR = 60 := fun z => h11 (show T0 g 25 23 = 60 from (show T0 g 25 23 = nI nR from hR).trans (by rw [z]; rfl))
    have hin : vp_in (nI nR) 60 := vp_in_nI (by omega) (by decide)
    refine V_aload_n dX8_send_14 rfl ?_
    refine V_callV (25) mw_X8_orders mv_X8_145 dX8_send_15 (ct_X8_orders (g := T0 g) hw1.1 hP hP10 hN hN30 hok hC eC hbo) hw1.p25 rfl rfl rfl (Nat.le_of_ble_eq_true rfl) (by first | decide | omega) (by decide) (by decide) (by decide) (fun r15 ws2 hp15 => ?_)
    obtain ⟨rfl, a, f, rm, hw2, hbt⟩ := hp15
    have hw2 := hw1.trans hw2
    refine V_if_ne 23 dX8_send_18 (by decide) (fun h18 => ?_) (fun h18 => ?_)
    · skip
      have hS23 : sc (T0 g) a f rm 25 23 = nI nR := hR
      refine V_aload_n dX8_send_23 rfl ?_
      refine V_get (25) fl_X8_49 dX8_send_24 hw2.p25 rfl ?_
      refine V_aload_n dX8_send_27 rfl ?_
      refine V_get (25) fl_X8_149 dX8_send_28 hw2.p25 rfl ?_
      rw [show sc (T0 g) a f rm 25 23 = nI nR from hR]
      refine V_aload_n dX8_send_31 rfl ?_
      refine V_get (25) fl_X8_75 dX8_send_32 hw2.p25 rfl ?_
      refine W_iastN (39) hw2 (by decide) (fun _ => rfl) dX8_send_35 (by omega) (by first | decide | omega) (fun ws3 hw3 => ?_)
      refine V_aload_n dX8_send_36 rfl ?_
      refine V_get (25) fl_X8_52 dX8_send_37 hw3.p25 rfl ?_
      refine V_aload_n dX8_send_40 rfl ?_
      refine V_get (25) fl_X8_149 dX8_send_41 hw3.p25 rfl ?_
      rw [show (va_up (sc (T0 g) a f rm) 39 (upd (sc (T0 g) a f rm 39) nR (sc (T0 g) a f rm 25 19))) 25 23 = nI nR from hR]
      refine V_aload_n dX8_send_44 rfl ?_
      refine V_get (25) fl_X8_90 dX8_send_45 hw3.p25 rfl ?_
      refine W_iastN (40) hw3 (by decide) (fun _ => rfl) dX8_send_48 (by omega) (by first | decide | omega) (fun ws4 hw4 => ?_)
      have hw4 : WF E ad el (va_up (va_up (sc (T0 g) a f rm) 39 (upd (sc (T0 g) a f rm 39) nR (sc (T0 g) a f rm 25 19))) 40 (upd (sc (T0 g) a f rm 40) nR (sc (T0 g) a f rm 25 24))) ws ws4 := hw4
      refine V_aload_n dX8_send_49 rfl ?_
      refine V_get (25) fl_X8_61 dX8_send_50 hw4.p25 rfl ?_
      refine V_aload_n dX8_send_53 rfl ?_
      refine V_get (25) fl_X8_149 dX8_send_54 hw4.p25 rfl ?_
      rw [show (va_up (va_up (sc (T0 g) a f rm) 39 (upd (sc (T0 g) a f rm 39) nR (sc (T0 g) a f rm 25 19))) 40 (upd (sc (T0 g) a f rm 40) nR (sc (T0 g) a f rm 25 24))) 25 23 = nI nR from hR]
      refine V_iconst (v := 0) dX8_send_57 (by decide) ?_
      refine W_zastN (43) hw4 (by decide) (fun _ => rfl) dX8_send_58 (by omega) (by first | decide | omega) (fun ws5 hw5 => ?_)
      have hw5 : WF E ad el (sdL (sdG0 (sc (T0 g) a f rm) nR) nR C 0) ws ws5 := hw5
      refine V_iconst (v := 0) dX8_send_59 (by decide) ?_
      refine V_istore_n dX8_send_60 (by decide) ?_
      exact sd_lp (g := sdG0 (sc (T0 g) a f rm) nR) hP hP10 hR (by omega) hC eC (fun x ws hw => sd_end hP hP10 hR hR60 hne hw (bI_1 h18)) (nP + 1) 0 _ _ (Nat.zero_le _) (by omega) rfl hw5
    · skip
      refine V_iconst (v := -1) dX8_send_21 (by decide) ?_
      refine V_iret dX8_send_22 rfl (by decide) (by decide) ?_
      exact Or.inr ⟨hne, a, f, rm, Or.inl ⟨bI_0 h18, rfl, hw2⟩⟩
end MD6
