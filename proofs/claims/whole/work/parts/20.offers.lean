/-! ===== Offers: the rows at b + 1 (versions) and b + 2 (worths), b = 2 or 5 ===== -/
def at10 (f : Nat → Int32) (p : Int32) : Int32 := if p < 0 then -1 else if 10 ≤ p then -1 else f p.toNatClampNeg
def put10 (g : Nat → Nat → Int32) (b : Nat) (p v u : Int32) : Nat → Nat → Int32 := if p < 0 then g else if 10 ≤ p then g else va_up (va_up g (b + 1) (upd (g (b + 1)) p.toNatClampNeg v)) (b + 2) (upd (g (b + 2)) p.toNatClampNeg u)
/-- the places at which a row isn't -1, as bits -/
def maskN (f : Nat → Int32) : Nat → Nat
  | 0 => 0
  | k + 1 => if f k = -1 then maskN f k else maskN f k ||| 2 ^ k
def sumI (f : Nat → Int32) (S : Nat) : Nat → Int32
  | 0 => 0
  | k + 1 => if S.testBit k = true then sumI f S k + f k else sumI f S k
section OFF
variable {E : VE} {ad : Nat → Nat} {el : Nat} {g : Nat → Nat → Int32} {w0 ws : va_W} {b : Nat}
theorem WF.o0 (h : WF E ad el g w0 ws) (hb : b = 2 ∨ b = 5) : ws[b]? = some (ad b, .inr (2, [.ref (ad (b + 1)), .ref (ad (b + 2))])) := by
  rcases hb with rfl | rfl
  · exact h.p2
  · exact h.p5
theorem WF.o1 (h : WF E ad el g w0 ws) (hb : b = 2 ∨ b = 5) : ws[b + 1]? = some (ad (b + 1), .inl (cI E, 10, .inl (g (b + 1)))) := by
  rcases hb with rfl | rfl
  · exact h.p3
  · exact h.p6
theorem WF.o2 (h : WF E ad el g w0 ws) (hb : b = 2 ∨ b = 5) : ws[b + 2]? = some (ad (b + 2), .inl (cI E, 10, .inl (g (b + 2)))) := by
  rcases hb with rfl | rfl
  · exact h.p4
  · exact h.p7
theorem o_c1 (hb : b = 2 ∨ b = 5) : ∀ r, cellOf E ad el (b + 1) r = .inl (cI E, 10, .inl r) := by
  rcases hb with rfl | rfl <;> exact fun _ => rfl
theorem o_c2 (hb : b = 2 ∨ b = 5) : ∀ r, cellOf E ad el (b + 2) r = .inl (cI E, 10, .inl r) := by
  rcases hb with rfl | rfl <;> exact fun _ => rfl
set_option maxHeartbeats 4000000 in
set_option maxRecDepth 20000 in
theorem ct_X2_versionOf (hw : WF E ad el g w0 ws) (hb : b = 2 ∨ b = 5) (p : Int32) : Ct E yX2_versionOf cX2_versionOf 2 (some (.int)) 0 0 0 [.ref (ad b), .int p] ws (fun r w => r = some (.int (at10 (g (b + 1)) p)) ∧ w = ws) := by
  refine Ct_of mw_X2_versionOf rfl (Nat.le_of_ble_eq_true rfl) ?_
  refine V_iload_n dX2_versionOf_0 rfl ?_
  refine V_if_lt 19 dX2_versionOf_1 (by decide) (fun h1 => ?_) (fun h1 => ?_)
  · skip
    refine V_iconst (v := -1) dX2_versionOf_19 (by decide) ?_
    refine V_iret dX2_versionOf_20 rfl (by decide) (by decide) ?_
    exact ⟨by rw [at10, if_pos h1], rfl⟩
  · skip
    refine V_iload_n dX2_versionOf_4 rfl ?_
    refine V_bipush (v := 10) dX2_versionOf_5 (by decide) ?_
    refine V_icmp_ge 19 dX2_versionOf_7 (by decide) (fun h7 => ?_) (fun h7 => ?_)
    · skip
      refine V_iconst (v := -1) dX2_versionOf_19 (by decide) ?_
      refine V_iret dX2_versionOf_20 rfl (by decide) (by decide) ?_
      exact ⟨by rw [at10, if_neg h1, if_pos h7], rfl⟩
    · skip
      refine V_aload_n dX2_versionOf_10 rfl ?_
      refine V_get (b) fl_X2_9 dX2_versionOf_11 (hw.o0 hb) rfl ?_
      refine V_iload_n dX2_versionOf_14 rfl ?_
      refine V_iald (b + 1) dX2_versionOf_15 (hw.o1 hb) (in_of (n := 10) (by decide) h1 h7) ?_
      refine V_goto 20 dX2_versionOf_16 (by decide) ?_
      refine V_iret dX2_versionOf_20 rfl (by decide) (by decide) ?_
      exact ⟨by rw [at10, if_neg h1, if_neg h7], rfl⟩
set_option maxHeartbeats 4000000 in
set_option maxRecDepth 20000 in
theorem ct_X2_worthOf (hw : WF E ad el g w0 ws) (hb : b = 2 ∨ b = 5) (p : Int32) : Ct E yX2_worthOf cX2_worthOf 2 (some (.int)) 0 0 0 [.ref (ad b), .int p] ws (fun r w => r = some (.int (at10 (g (b + 2)) p)) ∧ w = ws) := by
  refine Ct_of mw_X2_worthOf rfl (Nat.le_of_ble_eq_true rfl) ?_
  refine V_iload_n dX2_worthOf_0 rfl ?_
  refine V_if_lt 19 dX2_worthOf_1 (by decide) (fun h1 => ?_) (fun h1 => ?_)
  · skip
    refine V_iconst (v := -1) dX2_worthOf_19 (by decide) ?_
    refine V_iret dX2_worthOf_20 rfl (by decide) (by decide) ?_
    exact ⟨by rw [at10, if_pos h1], rfl⟩
  · skip
    refine V_iload_n dX2_worthOf_4 rfl ?_
    refine V_bipush (v := 10) dX2_worthOf_5 (by decide) ?_
    refine V_icmp_ge 19 dX2_worthOf_7 (by decide) (fun h7 => ?_) (fun h7 => ?_)
    · skip
      refine V_iconst (v := -1) dX2_worthOf_19 (by decide) ?_
      refine V_iret dX2_worthOf_20 rfl (by decide) (by decide) ?_
      exact ⟨by rw [at10, if_neg h1, if_pos h7], rfl⟩
    · skip
      refine V_aload_n dX2_worthOf_10 rfl ?_
      refine V_get (b) fl_X2_15 dX2_worthOf_11 (hw.o0 hb) rfl ?_
      refine V_iload_n dX2_worthOf_14 rfl ?_
      refine V_iald (b + 2) dX2_worthOf_15 (hw.o2 hb) (in_of (n := 10) (by decide) h1 h7) ?_
      refine V_goto 20 dX2_worthOf_16 (by decide) ?_
      refine V_iret dX2_worthOf_20 rfl (by decide) (by decide) ?_
      exact ⟨by rw [at10, if_neg h1, if_neg h7], rfl⟩
set_option maxHeartbeats 4000000 in
set_option maxRecDepth 20000 in
theorem ct_X2_has (hw : WF E ad el g w0 ws) (hb : b = 2 ∨ b = 5) (p : Int32) : Ct E yX2_has cX2_has 2 (some (.boolean)) 1 0 0 [.ref (ad b), .int p] ws (fun r w => r = some (.int (if at10 (g (b + 1)) p = -1 then 0 else 1)) ∧ w = ws) := by
  refine Ct_of mw_X2_has rfl (Nat.le_of_ble_eq_true rfl) ?_
  refine V_aload_n dX2_has_0 rfl ?_
  refine V_iload_n dX2_has_1 rfl ?_
  refine V_rdV (b) mw_X2_versionOf mv_X2_24 dX2_has_2 (ct_X2_versionOf hw hb p) (hw.o0 hb) rfl rfl rfl (Nat.le_of_ble_eq_true rfl) (by decide) (by decide) (by decide) (by decide) ?_
  refine V_iconst (v := -1) dX2_has_5 (by decide) ?_
  refine V_icmp_eq 13 dX2_has_6 (by decide) (fun h6 => ?_) (fun h6 => ?_)
  · skip
    refine V_iconst (v := 0) dX2_has_13 (by decide) ?_
    refine V_zret dX2_has_14 rfl (by first | exact Or.inl rfl | exact Or.inr rfl) (by decide) (by decide) ?_
    exact ⟨by rw [if_pos h6], rfl⟩
  · skip
    refine V_iconst (v := 1) dX2_has_9 (by decide) ?_
    refine V_goto 14 dX2_has_10 (by decide) ?_
    refine V_zret dX2_has_14 rfl (by first | exact Or.inl rfl | exact Or.inr rfl) (by decide) (by decide) ?_
    exact ⟨by rw [if_neg h6], rfl⟩
set_option maxHeartbeats 4000000 in
set_option maxRecDepth 20000 in
theorem ct_X2_put (hw : Wd E ad el g ws) (hb : b = 2 ∨ b = 5) (p v u : Int32) : Ct E yX2_put cX2_put 4 none 0 0 0 [.ref (ad b), .int p, .int v, .int u] ws (fun r w => r = none ∧ WF E ad el (put10 g b p v u) ws w) := by
  refine Ct_of mw_X2_put rfl (Nat.le_of_ble_eq_true rfl) ?_
  have hw := WF.rf hw
  refine V_iload_n dX2_put_0 rfl ?_
  refine V_if_lt 24 dX2_put_1 (by decide) (fun h1 => ?_) (fun h1 => ?_)
  · skip
    refine V_vret dX2_put_24 rfl (by decide) (by decide) ?_
    exact ⟨rfl, by rw [put10, if_pos h1]; exact hw⟩
  · skip
    refine V_iload_n dX2_put_4 rfl ?_
    refine V_bipush (v := 10) dX2_put_5 (by decide) ?_
    refine V_icmp_ge 24 dX2_put_7 (by decide) (fun h7 => ?_) (fun h7 => ?_)
    · skip
      refine V_vret dX2_put_24 rfl (by decide) (by decide) ?_
      exact ⟨rfl, by rw [put10, if_neg h1, if_pos h7]; exact hw⟩
    · skip
      refine V_aload_n dX2_put_10 rfl ?_
      refine V_get (b) fl_X2_9 dX2_put_11 (hw.o0 hb) rfl ?_
      refine V_iload_n dX2_put_14 rfl ?_
      refine V_iload_n dX2_put_15 rfl ?_
      refine W_iast (b + 1) hw (by omega) (o_c1 hb) dX2_put_16 (in_of (n := 10) (by decide) h1 h7) (fun ws1 hw1 => ?_)
      refine V_aload_n dX2_put_17 rfl ?_
      refine V_get (b) fl_X2_15 dX2_put_18 (hw1.o0 hb) rfl ?_
      refine V_iload_n dX2_put_21 rfl ?_
      refine V_iload_n dX2_put_22 rfl ?_
      refine W_iast (b + 2) hw1 (by omega) (o_c2 hb) dX2_put_23 (in_of (n := 10) (by decide) h1 h7) (fun ws2 hw2 => ?_)
      refine V_vret dX2_put_24 rfl (by decide) (by decide) ?_
      rw [va_up_ne (j := b + 2) _ _ (by omega)] at hw2
      exact ⟨rfl, by rw [put10, if_neg h1, if_neg h7]; exact hw2⟩
set_option maxHeartbeats 4000000 in
set_option maxRecDepth 20000 in
theorem ct_X2_drop (hw : Wd E ad el g ws) (hb : b = 2 ∨ b = 5) (p : Int32) : Ct E yX2_drop cX2_drop 2 none 1 0 0 [.ref (ad b), .int p] ws (fun r w => r = none ∧ WF E ad el (put10 g b p (-1) (-1)) ws w) := by
  refine Ct_of mw_X2_drop rfl (Nat.le_of_ble_eq_true rfl) ?_
  have hw := WF.rf hw
  refine V_aload_n dX2_drop_0 rfl ?_
  refine V_iload_n dX2_drop_1 rfl ?_
  refine V_iconst (v := -1) dX2_drop_2 (by decide) ?_
  refine V_iconst (v := -1) dX2_drop_3 (by decide) ?_
  refine V_callV (b) mw_X2_put mv_X2_28 dX2_drop_4 (ct_X2_put hw.1 hb p (-1) (-1)) (hw.o0 hb) rfl rfl rfl (Nat.le_of_ble_eq_true rfl) (by decide) (by decide) (by decide) (by decide) (fun r4 ws1 hp4 => ?_)
  obtain ⟨rfl, hw1⟩ := hp4
  refine V_vret dX2_drop_7 rfl (by decide) (by decide) ?_
  exact ⟨rfl, hw1⟩
set_option maxHeartbeats 4000000 in
set_option maxRecDepth 20000 in
theorem lp_X2_mask (hw : WF E ad el g w0 ws) (hb : b = 2 ∨ b = 5)  : ∀ (n p : Nat) (m x : Int32), p ≤ 10 → 10 < p + n → m = nI (maskN (g (b + 1)) p) → x = nI p → V E yX2_mask cX2_mask 3 (some (.int)) 0 0 0 (fun r w => r = some (.int (nI (maskN (g (b + 1)) 10))) ∧ w = ws) 4 [some (.ref (ad b)), some (.int m), some (.int x)] [] ws 0 0 := by
  intro n
  induction n with
  | zero => intro p m x h1 h2; exact absurd h2 (by omega)
  | succ n ih =>
    intro p m x hpl hpn hm hx
    subst hm hx
    refine V_iload_n dX2_mask_4 rfl ?_
    refine V_bipush (v := 10) dX2_mask_5 (by decide) ?_
    refine V_icmp_ge 32 dX2_mask_7 (by decide) (fun h7 => ?_) (fun h7 => ?_)
    · skip
      refine V_iload_n dX2_mask_32 rfl ?_
      refine V_iret dX2_mask_33 rfl (by decide) (by decide) ?_
      have hp10 : p = 10 := by have := leK (a := 10) (by decide) (by omega) h7; omega
      subst hp10
      exact ⟨rfl, rfl⟩
    · skip
      have hp := nleK (a := 10) (by decide) (by omega) h7
      refine V_aload_n dX2_mask_10 rfl ?_
      refine V_get (b) fl_X2_9 dX2_mask_11 (hw.o0 hb) rfl ?_
      refine V_iload_n dX2_mask_14 rfl ?_
      refine V_iald (b + 1) dX2_mask_15 (hw.o1 hb) (vp_in_nI (by have := nleK (a := 10) (by decide) (by omega) h7; omega) (by decide)) ?_
      rw [nI_clamp (n := p) (by omega)]
      refine V_iconst (v := -1) dX2_mask_16 (by decide) ?_
      refine V_icmp_eq 26 dX2_mask_17 (by decide) (fun h17 => ?_) (fun h17 => ?_)
      · skip
        refine V_iinc dX2_mask_26 rfl rfl (by decide) ?_
        refine V_goto 4 dX2_mask_29 (by decide) ?_
        exact ih (p + 1) _ _ (by omega) (by omega) (by rw [maskN, if_pos h17]) (nI_1 p)
      · skip
        refine V_iload_n dX2_mask_20 rfl ?_
        refine V_iconst (v := 1) dX2_mask_21 (by decide) ?_
        refine V_iload_n dX2_mask_22 rfl ?_
        refine V_ishl dX2_mask_23 ?_
        refine V_ior dX2_mask_24 ?_
        refine V_istore_n dX2_mask_25 (by decide) ?_
        refine V_iinc dX2_mask_26 rfl rfl (by decide) ?_
        refine V_goto 4 dX2_mask_29 (by decide) ?_
        exact ih (p + 1) _ _ (by omega) (by omega) (by rw [maskN, if_neg h17, shl1 p (by omega), nx_or]) (nI_1 p)
set_option maxHeartbeats 4000000 in
set_option maxRecDepth 20000 in
theorem ct_X2_mask (hw : WF E ad el g w0 ws) (hb : b = 2 ∨ b = 5)  : Ct E yX2_mask cX2_mask 3 (some (.int)) 0 0 0 [.ref (ad b)] ws (fun r w => r = some (.int (nI (maskN (g (b + 1)) 10))) ∧ w = ws) := by
  refine Ct_of mw_X2_mask rfl (Nat.le_of_ble_eq_true rfl) ?_
  refine V_iconst (v := 0) dX2_mask_0 (by decide) ?_
  refine V_istore_n dX2_mask_1 (by decide) ?_
  refine V_iconst (v := 0) dX2_mask_2 (by decide) ?_
  refine V_istore_n dX2_mask_3 (by decide) ?_
  exact lp_X2_mask hw hb 11 0 _ _ (by decide) (by decide) rfl rfl
set_option maxHeartbeats 4000000 in
set_option maxRecDepth 20000 in
theorem lp_X2_sum (hw : WF E ad el g w0 ws) (hb : b = 2 ∨ b = 5) (S : Nat) (hS : S < 1024)  : ∀ (n p : Nat) (m x : Int32), p ≤ 10 → 10 < p + n → m = sumI (g (b + 2)) S p → x = nI p → V E yX2_sum cX2_sum 4 (some (.int)) 0 0 0 (fun r w => r = some (.int (sumI (g (b + 2)) S 10)) ∧ w = ws) 4 [some (.ref (ad b)), some (.int (nI S)), some (.int m), some (.int x)] [] ws 0 0 := by
  intro n
  induction n with
  | zero => intro p m x h1 h2; exact absurd h2 (by omega)
  | succ n ih =>
    intro p m x hpl hpn hm hx
    subst hm hx
    refine V_iload_n dX2_sum_4 rfl ?_
    refine V_bipush (v := 10) dX2_sum_5 (by decide) ?_
    refine V_icmp_ge 33 dX2_sum_7 (by decide) (fun h7 => ?_) (fun h7 => ?_)
    · skip
      refine V_iload_n dX2_sum_33 rfl ?_
      refine V_iret dX2_sum_34 rfl (by decide) (by decide) ?_
      have hp10 : p = 10 := by have := leK (a := 10) (by decide) (by omega) h7; omega
      subst hp10
      exact ⟨rfl, rfl⟩
    · skip
      have hp := nleK (a := 10) (by decide) (by omega) h7
      refine V_iload_n dX2_sum_10 rfl ?_
      refine V_iload_n dX2_sum_11 rfl ?_
      refine V_ishr dX2_sum_12 ?_
      refine V_iconst (v := 1) dX2_sum_13 (by decide) ?_
      refine V_iand dX2_sum_14 ?_
      refine V_if_eq 27 dX2_sum_15 (by decide) (fun h15 => ?_) (fun h15 => ?_)
      · skip
        refine V_iinc dX2_sum_27 rfl rfl (by decide) ?_
        refine V_goto 4 dX2_sum_30 (by decide) ?_
        have hb2 := bitAt_eq (by omega) (by omega) h15
        exact ih (p + 1) _ _ (by omega) (by omega) (by rw [sumI, if_neg (by simp [hb2])]) (nI_1 p)
      · skip
        refine V_iload_n dX2_sum_18 rfl ?_
        refine V_aload_n dX2_sum_19 rfl ?_
        refine V_get (b) fl_X2_15 dX2_sum_20 (hw.o0 hb) rfl ?_
        refine V_iload_n dX2_sum_23 rfl ?_
        refine V_iald (b + 2) dX2_sum_24 (hw.o2 hb) (vp_in_nI (by have := nleK (a := 10) (by decide) (by omega) h7; omega) (by decide)) ?_
        rw [nI_clamp (n := p) (by omega)]
        refine V_iadd dX2_sum_25 ?_
        refine V_istore_n dX2_sum_26 (by decide) ?_
        refine V_iinc dX2_sum_27 rfl rfl (by decide) ?_
        refine V_goto 4 dX2_sum_30 (by decide) ?_
        have hb2 := bitAt_ne (by omega) (by omega) h15
        exact ih (p + 1) _ _ (by omega) (by omega) (by rw [sumI, if_pos hb2]) (nI_1 p)
set_option maxHeartbeats 4000000 in
set_option maxRecDepth 20000 in
theorem ct_X2_sum (hw : WF E ad el g w0 ws) (hb : b = 2 ∨ b = 5) (S : Nat) (hS : S < 1024)  : Ct E yX2_sum cX2_sum 4 (some (.int)) 0 0 0 [.ref (ad b), .int (nI S)] ws (fun r w => r = some (.int (sumI (g (b + 2)) S 10)) ∧ w = ws) := by
  refine Ct_of mw_X2_sum rfl (Nat.le_of_ble_eq_true rfl) ?_
  refine V_iconst (v := 0) dX2_sum_0 (by decide) ?_
  refine V_istore_n dX2_sum_1 (by decide) ?_
  refine V_iconst (v := 0) dX2_sum_2 (by decide) ?_
  refine V_istore_n dX2_sum_3 (by decide) ?_
  exact lp_X2_sum hw hb S hS 11 0 _ _ (by decide) (by decide) rfl rfl
end OFF
