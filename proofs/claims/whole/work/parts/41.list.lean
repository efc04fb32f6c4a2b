/-! ===== ArrayList: add ===== -/
theorem cell_el {E : VE} {ad : Nat → Nat} {el el2 k : Nat} {r : Nat → Int32} (hk : k ≠ 24) : cellOf E ad el k r = cellOf E ad el2 k r := by
  unfold cellOf
  split <;> first | rfl | exact absurd rfl hk
/-- another row of elements -/
theorem Wd.el {E : VE} {ad : Nat → Nat} {el el2 : Nat} {g : Nat → Nat → Int32} {ws : va_W} (h : Wd E ad el g ws) : Wd E ad el2 g (ws.set 24 (ad 24, cellOf E ad el2 24 (g 24))) := by
  intro j hj
  by_cases e : 24 = j
  · subst e; exact set_at (h 24 (by decide))
  · rw [List.getElem?_set_ne e, ← cell_el (el := el) (fun z => e z.symm)]
    exact h j hj
theorem Wd.app {E : VE} {ad : Nat → Nat} {el : Nat} {g : Nat → Nat → Int32} {ws : va_W} {x : Nat × va_E} (h : Wd E ad el g ws) : Wd E ad el g (ws ++ [x]) := fun j hj => app_lt (h j hj)
theorem Wd.dyn {E : VE} {ad : Nat → Nat} {el : Nat} {g : Nat → Nat → Int32} {ws : va_W} {q : Nat} {x : Nat × va_E} (h : Wd E ad el g ws) (hq : 46 ≤ q) : Wd E ad el g (ws.set q x) := fun j hj => by rw [List.getElem?_set_ne (by omega)]; exact h j hj
theorem Wd.len {E : VE} {ad : Nat → Nat} {el : Nat} {g : Nat → Nat → Int32} {ws : va_W} (h : Wd E ad el g ws) : 46 ≤ ws.length := (List.getElem?_eq_some_iff.mp (h 45 (by decide))).1
/-- what add leaves: the row of elements at q2 -/
def AddQ (E : VE) (ad : Nat → Nat) (g : Nat → Nat → Int32) (n x qe : Nat) (fe : Nat → Option Nat) (ws w : va_W) : Prop :=
  ∃ (el2 q2 cap2 : Nat) (fe2 : Nat → Option Nat), Wd E ad el2 (va_up g 24 (upd (g 24) 2 (g 24 2 + 1))) w ∧ 46 ≤ q2 ∧ w[q2]? = some (el2, rO E cap2 fe2) ∧ n + 1 ≤ cap2 ∧ cap2 ≤ 100 ∧ fe2 n = some x ∧ (∀ i, i < n → fe2 i = fe i) ∧ (∀ i, n < i → fe2 i = none) ∧ (∀ j, 46 ≤ j → j < ws.length → j ≠ qe → w[j]? = ws[j]?) ∧ (q2 = qe ∨ ws.length ≤ q2)
section LS
variable {E : VE} {ad : Nat → Nat} {el : Nat} {g : Nat → Nat → Int32} {w0 ws : va_W} {tE mi : Nat}
set_option maxHeartbeats 4000000 in
set_option maxRecDepth 20000 in
theorem ct_newLength {n : Nat} (hn1 : 1 ≤ n) (hn : n ≤ 60) : Ct E yJ8_newLength_cabcc cJ8_newLength_cabcc 4 (some (.int)) 1 0 0 [.int (nI n), .int 1, .int (nI (n / 2))] ws (fun r w => r = some (.int (nI (n + (if 1 < n / 2 then n / 2 else 1)))) ∧ w = ws) := by
  refine Ct_of mw_J8_newLength_cabcc rfl (Nat.le_of_ble_eq_true rfl) ?_
  have hmx : (if (1 : Int32) < nI (n / 2) then nI (n / 2) else 1) = nI (if 1 < n / 2 then n / 2 else 1) := by
    by_cases q : 1 < n / 2
    · rw [if_pos q, if_pos (show (1 : Int32) < nI (n / 2) from (nI_ltI (a := 1) (by decide) (by omega)).mpr q)]
    · rw [if_neg q, if_neg (show ¬ (1 : Int32) < nI (n / 2) from fun z => q ((nI_ltI (a := 1) (by decide) (by omega)).mp z))]; rfl
  refine V_iload_n dJ8_newLength_cabcc_0 rfl ?_
  refine V_iload_n dJ8_newLength_cabcc_1 rfl ?_
  refine V_iload_n dJ8_newLength_cabcc_2 rfl ?_
  refine V_mmax wd_mmaxL_J8_194 wd_mmaxS wd_mathI wd_mmaxC dJ8_newLength_cabcc_3 (by decide) (Nat.le_of_ble_eq_true rfl) (by decide) (by decide) ?_
  rw [hmx]
  refine V_iadd dJ8_newLength_cabcc_6 ?_
  rw [nI_add]
  refine V_istore_n dJ8_newLength_cabcc_7 (by decide) ?_
  refine V_iconst (v := 0) dJ8_newLength_cabcc_8 (by decide) ?_
  refine V_iload_n dJ8_newLength_cabcc_9 rfl ?_
  refine V_icmp_ge 21 dJ8_newLength_cabcc_10 (by decide) (fun h10 => absurd (leK (a := n + (if 1 < n / 2 then n / 2 else 1)) (b := 0) (by split <;> omega) (by decide) h10) (by split <;> omega)) (fun h10 => ?_)
  refine V_iload_n dJ8_newLength_cabcc_13 rfl ?_
  refine V_ldc wd_co_J8_200 dJ8_newLength_cabcc_14 ?_
  refine V_icmp_gt 21 dJ8_newLength_cabcc_16 (by decide) (fun h16 => absurd (ltK (a := 2147483639) (b := n + (if 1 < n / 2 then n / 2 else 1)) (by decide) (by split <;> omega) h16) (by split <;> omega)) (fun h16 => ?_)
  refine V_iload_n dJ8_newLength_cabcc_19 rfl ?_
  refine V_iret dJ8_newLength_cabcc_20 rfl (by decide) (by decide) ?_
  exact ⟨rfl, rfl⟩
set_option maxHeartbeats 4000000 in
set_option maxRecDepth 20000 in
theorem ct_copyOfO3 (hE : GH E tE mi) {q a n N : Nat} {fe : Nat → Option Nat} (he : ws[q]? = some (a, rO E n fe)) (hel : ∀ i v, i < n → fe i = some v → ∃ (qv : Nat) (fs : List Value), ws[qv]? = some (v, .inr (6, fs))) (hn : n ≤ 60) (hnN : n ≤ N) (hN : N ≤ 100) : Ct E yJ7_copyOf_6403c cJ7_copyOf_6403c 4 (some (.array (.object "java/lang/Object"))) 1 1 N [.ref a, .int (nI N), .ref mi] ws (fun r w => ∃ a2, r = some (.ref a2) ∧ w = ws ++ [(a2, rO E N (va_cpy fe (fun _ => none) 0 0 n))]) := by
  refine Ct_of mw_J7_copyOf_6403c rfl (Nat.le_of_ble_eq_true rfl) ?_
  have hmn : (if nI N < nI n then nI N else nI n) = nI n := by
    by_cases q : N < n
    · omega
    · rw [if_neg (fun z => q ((nI_ltI (by omega) (by omega)).mp z))]
  have hel2 : ∀ {z : Nat × va_E} (i v), i < n → fe i = some v → ∃ (qv : Nat) (fs : List Value), (ws ++ [z])[qv]? = some (v, .inr (6, fs)) := by
    intro z i v hi hv
    obtain ⟨qv, fs, h⟩ := hel i v hi hv
    exact ⟨qv, fs, app_lt h⟩
  refine V_aload_n dJ7_copyOf_6403c_0 rfl ?_
  refine V_ldcM hE rfl dJ7_copyOf_6403c_1 ?_
  refine V_acmp_ne 13 dJ7_copyOf_6403c_3 (by decide) (fun h => absurd rfl h) (fun _ => ?_)
  refine V_iload_n dJ7_copyOf_6403c_6 rfl ?_
  refine V_newO (N := N) hE wd_no7 dJ7_copyOf_6403c_7 (nI_pos (by omega)) (nI_clamp (by omega)) (by omega) (by decide) (by omega) (fun q2 => ?_)
  refine V_goto 24 dJ7_copyOf_6403c_10 (by decide) ?_
  refine V_astore_n dJ7_copyOf_6403c_24 (by decide) ?_
  refine V_aload_n dJ7_copyOf_6403c_25 rfl ?_
  refine V_iconst (v := 0) dJ7_copyOf_6403c_26 (by decide) ?_
  refine V_aload_n dJ7_copyOf_6403c_27 rfl ?_
  refine V_iconst (v := 0) dJ7_copyOf_6403c_28 (by decide) ?_
  refine V_aload_n dJ7_copyOf_6403c_29 rfl ?_
  refine V_alenO q dJ7_copyOf_6403c_30 (app_lt he) ?_
  refine V_iload_n dJ7_copyOf_6403c_31 rfl ?_
  refine V_mmin wd_mminL_J7_304 wd_mminS wd_mathI wd_mminC dJ7_copyOf_6403c_32 (by decide) (Nat.le_of_ble_eq_true rfl) (by decide) (by omega) ?_
  rw [hmn]
  refine V_copyO q ws.length hE rfl dJ7_copyOf_6403c_35 (app_lt he) app_at hel2 (by decide) (by decide) (nI_pos (by omega)) (by rw [nI_clamp (by omega)]; show 0 + n ≤ n; omega) (by rw [nI_clamp (by omega)]; show 0 + n ≤ N; omega) (by decide) (Nat.le_of_ble_eq_true rfl) ?_
  rw [app_set, nI_clamp (by omega)]
  refine V_aload_n dJ7_copyOf_6403c_38 rfl ?_
  refine V_aret dJ7_copyOf_6403c_39 rfl (Or.inr ⟨_, rfl⟩) (Or.inr ⟨_, rfl⟩) (by decide) (by omega) ?_
  exact ⟨q2, rfl, rfl⟩
set_option maxHeartbeats 4000000 in
set_option maxRecDepth 20000 in
theorem ct_copyOfO (hE : GH E tE mi) {q a n N : Nat} {fe : Nat → Option Nat} (he : ws[q]? = some (a, rO E n fe)) (hel : ∀ i v, i < n → fe i = some v → ∃ (qv : Nat) (fs : List Value), ws[qv]? = some (v, .inr (6, fs))) (hn : n ≤ 60) (hnN : n ≤ N) (hN : N ≤ 100) : Ct E yJ7_copyOf_1904c cJ7_copyOf_1904c 2 (some (.array (.object "java/lang/Object"))) 2 1 N [.ref a, .int (nI N)] ws (fun r w => ∃ a2, r = some (.ref a2) ∧ w = ws ++ [(a2, rO E N (va_cpy fe (fun _ => none) 0 0 n))]) := by
  refine Ct_of mw_J7_copyOf_1904c rfl (Nat.le_of_ble_eq_true rfl) ?_
  refine V_aload_n dJ7_copyOf_1904c_0 rfl ?_
  refine V_iload_n dJ7_copyOf_1904c_1 rfl ?_
  refine V_aload_n dJ7_copyOf_1904c_2 rfl ?_
  refine V_getC q hE rfl dJ7_copyOf_1904c_3 he (by decide) (Nat.le_of_ble_eq_true rfl) ?_
  refine V_callS mw_J7_copyOf_6403c ms_J7_300 dJ7_copyOf_1904c_6 (ct_copyOfO3 hE he hel hn hnN hN) rfl rfl (Nat.le_of_ble_eq_true rfl) (by first | decide | omega) (by decide) (by decide) (by omega) (fun r6 ws1 hp6 => ?_)
  obtain ⟨a2, rfl, rfl⟩ := hp6
  have hw1 := he
  refine V_aret dJ7_copyOf_1904c_9 rfl (Or.inr ⟨_, rfl⟩) (Or.inr ⟨_, rfl⟩) (by decide) (by omega) ?_
  exact ⟨a2, rfl, rfl⟩
set_option maxHeartbeats 4000000 in
set_option maxRecDepth 20000 in
theorem ct_growA (hE : GH E tE mi) (hw : WF E ad tE g w0 ws) : Ct E yJx4a65c_grow_92f84 cJx4a65c_grow_92f84 4 (some (.array (.object "java/lang/Object"))) 3 1 100 [.ref (ad 24), .int 1] ws (fun r w => ∃ a2, r = some (.ref a2) ∧ w = (ws ++ [(a2, rO E 10 (fun _ => none))]).set 24 (ad 24, cellOf E ad a2 24 (g 24))) := by
  refine Ct_of mw_Jx4a65c_grow_92f84 rfl (Nat.le_of_ble_eq_true rfl) ?_
  refine V_aload_n dJx4a65c_grow_92f84_0 rfl ?_
  refine V_get (24) fl_Jx4a65c_9 dJx4a65c_grow_92f84_1 hw.p24 rfl ?_
  refine V_tlenE hE dJx4a65c_grow_92f84_4 ?_
  refine V_istore_n dJx4a65c_grow_92f84_5 (by decide) ?_
  refine V_iload_n dJx4a65c_grow_92f84_6 rfl ?_
  refine V_if_gt 20 dJx4a65c_grow_92f84_7 (by decide) (fun h7 => absurd h7 (by decide)) (fun h7 => ?_)
  refine V_aload_n dJx4a65c_grow_92f84_10 rfl ?_
  refine V_get (24) fl_Jx4a65c_9 dJx4a65c_grow_92f84_11 hw.p24 rfl ?_
  refine V_getsE hE rfl dJx4a65c_grow_92f84_14 ?_
  refine V_acmp_eq 45 dJx4a65c_grow_92f84_17 (by decide) (fun _ => ?_) (fun h => absurd rfl h)
  refine V_aload_n dJx4a65c_grow_92f84_45 rfl ?_
  refine V_bipush (v := 10) dJx4a65c_grow_92f84_46 (by decide) ?_
  refine V_iload_n dJx4a65c_grow_92f84_48 rfl ?_
  refine V_mmax wd_mmaxL_Jx4a65c_79 wd_mmaxS wd_mathI wd_mmaxC dJx4a65c_grow_92f84_49 (by decide) (Nat.le_of_ble_eq_true rfl) (by decide) (by decide) ?_
  rw [show (if (10 : Int32) < 1 then 1 else 10) = nI 10 from by decide]
  refine V_newO (N := 10) hE wd_noA dJx4a65c_grow_92f84_52 (by decide) (by decide) (by decide) (by decide) (by decide) (fun q2 => ?_)
  refine V_dup_x1 dJx4a65c_grow_92f84_55 rfl rfl ?_
  refine V_put 24 fp_Jx4a65c_9 dJx4a65c_grow_92f84_56 (app_lt hw.p24) rfl rfl (Nat.le_of_ble_eq_true rfl) ?_
  refine V_aret dJx4a65c_grow_92f84_59 rfl (Or.inr ⟨_, rfl⟩) (Or.inr ⟨_, rfl⟩) (by decide) (by decide) ?_
  exact ⟨q2, rfl, rfl⟩
set_option maxHeartbeats 4000000 in
set_option maxRecDepth 20000 in
theorem ct_growB (hE : GH E tE mi) (hw : WF E ad el g w0 ws) {q n : Nat} {fe : Nat → Option Nat} (he : ws[q]? = some (el, rO E n fe)) (hel : ∀ i v, i < n → fe i = some v → ∃ (qv : Nat) (fs : List Value), ws[qv]? = some (v, .inr (6, fs))) (hn1 : 1 ≤ n) (hn : n < 60) : Ct E yJx4a65c_grow_92f84 cJx4a65c_grow_92f84 4 (some (.array (.object "java/lang/Object"))) 3 1 100 [.ref (ad 24), .int (nI (n + 1))] ws (fun r w => ∃ a2, r = some (.ref a2) ∧ w = (ws ++ [(a2, rO E (n + (if 1 < n / 2 then n / 2 else 1)) (va_cpy fe (fun _ => none) 0 0 n))]).set 24 (ad 24, cellOf E ad a2 24 (g 24))) := by
  refine Ct_of mw_Jx4a65c_grow_92f84 rfl (Nat.le_of_ble_eq_true rfl) ?_
  refine V_aload_n dJx4a65c_grow_92f84_0 rfl ?_
  refine V_get (24) fl_Jx4a65c_9 dJx4a65c_grow_92f84_1 hw.p24 rfl ?_
  refine V_alenO q dJx4a65c_grow_92f84_4 he ?_
  refine V_istore_n dJx4a65c_grow_92f84_5 (by decide) ?_
  refine V_iload_n dJx4a65c_grow_92f84_6 rfl ?_
  refine V_if_gt 20 dJx4a65c_grow_92f84_7 (by decide) (fun h7 => ?_) (fun h7 => absurd (nI_lt (a := 0) (b := n) (by omega) (by omega)) h7)
  refine V_iload_n dJx4a65c_grow_92f84_20 rfl ?_
  refine V_iload_n dJx4a65c_grow_92f84_21 rfl ?_
  refine V_iload_n dJx4a65c_grow_92f84_22 rfl ?_
  refine V_isub dJx4a65c_grow_92f84_23 ?_
  rw [show nI (n + 1) - nI n = 1 from by rw [pk_sub (by omega), show n + 1 - n = 1 by omega]; rfl]
  refine V_iload_n dJx4a65c_grow_92f84_24 rfl ?_
  refine V_iconst (v := 1) dJx4a65c_grow_92f84_25 (by decide) ?_
  refine V_ishr dJx4a65c_grow_92f84_26 ?_
  rw [show nI n >>> ((1 : Int32) &&& 31) = nI (n / 2) from pk_shrN (by omega) _ 1 (by decide)]
  refine V_rdS mw_J8_newLength_cabcc ms_Jx4a65c_73 dJx4a65c_grow_92f84_27 (ct_newLength hn1 (by omega)) rfl rfl (Nat.le_of_ble_eq_true rfl) (by first | decide | omega) (by decide) (by decide) (by decide) ?_
  refine V_istore_n dJx4a65c_grow_92f84_30 (by decide) ?_
  refine V_aload_n dJx4a65c_grow_92f84_31 rfl ?_
  refine V_aload_n dJx4a65c_grow_92f84_32 rfl ?_
  refine V_get (24) fl_Jx4a65c_9 dJx4a65c_grow_92f84_33 hw.p24 rfl ?_
  refine V_iload_n dJx4a65c_grow_92f84_36 rfl ?_
  refine V_callS mw_J7_copyOf_1904c ms_Jx4a65c_66 dJx4a65c_grow_92f84_37 (ct_copyOfO hE he hel (N := n + (if 1 < n / 2 then n / 2 else 1)) (by omega) (by omega) (by split <;> omega)) rfl rfl (Nat.le_of_ble_eq_true rfl) (by first | decide | omega) (by decide) (by decide) (by split <;> omega) (fun r37 ws1 hp37 => ?_)
  obtain ⟨a2, rfl, rfl⟩ := hp37
  have hw1 := hw
  refine V_dup_x1 dJx4a65c_grow_92f84_40 rfl rfl ?_
  refine V_put 24 fp_Jx4a65c_9 dJx4a65c_grow_92f84_41 (app_lt hw.p24) rfl rfl (Nat.le_of_ble_eq_true rfl) ?_
  refine V_aret dJx4a65c_grow_92f84_44 rfl (Or.inr ⟨_, rfl⟩) (Or.inr ⟨_, rfl⟩) (by decide) (by split <;> omega) ?_
  exact ⟨a2, rfl, rfl⟩
set_option maxHeartbeats 4000000 in
set_option maxRecDepth 20000 in
theorem ct_grow0A (hE : GH E tE mi) (hw : WF E ad tE g w0 ws) (hn : g 24 2 = 0) : Ct E yJx4a65c_grow_d5877 cJx4a65c_grow_d5877 1 (some (.array (.object "java/lang/Object"))) 4 1 100 [.ref (ad 24)] ws (fun r w => ∃ a2, r = some (.ref a2) ∧ w = (ws ++ [(a2, rO E 10 (fun _ => none))]).set 24 (ad 24, cellOf E ad a2 24 (g 24))) := by
  refine Ct_of mw_Jx4a65c_grow_d5877 rfl (Nat.le_of_ble_eq_true rfl) ?_
  refine V_aload_n dJx4a65c_grow_d5877_0 rfl ?_
  refine V_aload_n dJx4a65c_grow_d5877_1 rfl ?_
  refine V_get (24) fl_Jx4a65c_48 dJx4a65c_grow_d5877_2 hw.p24 rfl ?_
  refine V_iconst (v := 1) dJx4a65c_grow_d5877_5 (by decide) ?_
  refine V_iadd dJx4a65c_grow_d5877_6 ?_
  rw [hn, show (0 : Int32) + 1 = 1 from rfl]
  refine V_callV (24) mw_Jx4a65c_grow_92f84 mv_Jx4a65c_69 dJx4a65c_grow_d5877_7 (ct_growA hE hw) hw.p24 rfl rfl rfl (Nat.le_of_ble_eq_true rfl) (by first | decide | omega) (by decide) (by decide) (by decide) (fun r7 ws1 hp7 => ?_)
  obtain ⟨a2, rfl, rfl⟩ := hp7
  have hw1 := hw
  refine V_aret dJx4a65c_grow_d5877_10 rfl (Or.inr ⟨_, rfl⟩) (Or.inr ⟨_, rfl⟩) (by decide) (by decide) ?_
  exact ⟨a2, rfl, rfl⟩
set_option maxHeartbeats 4000000 in
set_option maxRecDepth 20000 in
theorem ct_grow0B (hE : GH E tE mi) (hw : WF E ad el g w0 ws) {q n : Nat} {fe : Nat → Option Nat} (he : ws[q]? = some (el, rO E n fe)) (hel : ∀ i v, i < n → fe i = some v → ∃ (qv : Nat) (fs : List Value), ws[qv]? = some (v, .inr (6, fs))) (hn1 : 1 ≤ n) (hn : n < 60) (en : g 24 2 = nI n) : Ct E yJx4a65c_grow_d5877 cJx4a65c_grow_d5877 1 (some (.array (.object "java/lang/Object"))) 4 1 100 [.ref (ad 24)] ws (fun r w => ∃ a2, r = some (.ref a2) ∧ w = (ws ++ [(a2, rO E (n + (if 1 < n / 2 then n / 2 else 1)) (va_cpy fe (fun _ => none) 0 0 n))]).set 24 (ad 24, cellOf E ad a2 24 (g 24))) := by
  refine Ct_of mw_Jx4a65c_grow_d5877 rfl (Nat.le_of_ble_eq_true rfl) ?_
  refine V_aload_n dJx4a65c_grow_d5877_0 rfl ?_
  refine V_aload_n dJx4a65c_grow_d5877_1 rfl ?_
  refine V_get (24) fl_Jx4a65c_48 dJx4a65c_grow_d5877_2 hw.p24 rfl ?_
  refine V_iconst (v := 1) dJx4a65c_grow_d5877_5 (by decide) ?_
  refine V_iadd dJx4a65c_grow_d5877_6 ?_
  rw [en, nI_1]
  refine V_callV (24) mw_Jx4a65c_grow_92f84 mv_Jx4a65c_69 dJx4a65c_grow_d5877_7 (ct_growB hE hw he hel hn1 hn) hw.p24 rfl rfl rfl (Nat.le_of_ble_eq_true rfl) (by first | decide | omega) (by decide) (by decide) (by decide) (fun r7 ws1 hp7 => ?_)
  obtain ⟨a2, rfl, rfl⟩ := hp7
  have hw1 := hw
  refine V_aret dJx4a65c_grow_d5877_10 rfl (Or.inr ⟨_, rfl⟩) (Or.inr ⟨_, rfl⟩) (by decide) (by decide) ?_
  exact ⟨a2, rfl, rfl⟩
end LS
