/-! ===== the library: fill, copyOf, checkIndex, ArrayList ===== -/
def fillF (f : Nat → Int32) (v : Int32) (i : Nat) : Nat → Int32 := fun j => if j < i then v else f j
theorem fillF_s (f : Nat → Int32) (v : Int32) (i : Nat) : upd (fillF f v i) i v = fillF f v (i + 1) := by
  funext j
  unfold upd fillF
  by_cases e : j = i
  · subst e; simp
  · rw [if_neg e]
    by_cases h : j < i
    · rw [if_pos h, if_pos (by omega)]
    · rw [if_neg h, if_neg (by omega)]
theorem set_at {ws : va_W} {q : Nat} {e e2 : Nat × va_E} (h : ws[q]? = some e) : (ws.set q e2)[q]? = some e2 := List.getElem?_set_self (List.getElem?_eq_some_iff.mp h).1
theorem set_same {ws : va_W} {q : Nat} {e : Nat × va_E} (h : ws[q]? = some e) : ws.set q e = ws := by
  apply List.ext_getElem?
  intro i
  by_cases hi : q = i
  · subst hi; rw [set_at h, h]
  · rw [List.getElem?_set_ne hi]
theorem app_at {ws : va_W} {e : Nat × va_E} : (ws ++ [e])[ws.length]? = some e := by rw [List.getElem?_append_right (Nat.le_refl _), Nat.sub_self]; rfl
theorem app_lt {ws : va_W} {e x : Nat × va_E} {q : Nat} (h : ws[q]? = some x) : (ws ++ [e])[q]? = some x := by rw [List.getElem?_append_left (List.getElem?_eq_some_iff.mp h).1]; exact h
theorem app_set {ws : va_W} {e x : Nat × va_E} : (ws ++ [e]).set ws.length x = ws ++ [x] := by rw [List.set_append_right _ _ (Nat.le_refl _), Nat.sub_self]; rfl
section JD
variable {E : VE} {ad : Nat → Nat} {el : Nat} {g : Nat → Nat → Int32} {w0 ws : va_W} {tE mi : Nat}
set_option maxHeartbeats 4000000 in
set_option maxRecDepth 20000 in
theorem lp_fill {q a n : Nat} {f : Nat → Int32} (he : ws[q]? = some (a, .inl (cI E, n, .inl f))) (hn : n < 2 ^ 31) (v : Int32) : ∀ (k i : Nat) (x : Int32), i ≤ n → n < i + k → x = nI i → V E yJ7_fill_53178 cJ7_fill_53178 4 none 0 0 0 (fun r w => r = none ∧ w = ws.set q (a, .inl (cI E, n, .inl (fillF f v n)))) 5 [some (.ref a), some (.int v), some (.int x), some (.int (nI n))] [] (ws.set q (a, .inl (cI E, n, .inl (fillF f v i)))) 0 0 := by
  intro k
  induction k with
  | zero => intro i x h1 h2; exact absurd h2 (by omega)
  | succ k ih =>
    intro i x hil hin hx
    subst hx
    refine V_iload_n dJ7_fill_53178_5 rfl ?_
    refine V_iload_n dJ7_fill_53178_6 rfl ?_
    refine V_icmp_ge 20 dJ7_fill_53178_7 (by decide) (fun h7 => ?_) (fun h7 => ?_)
    · skip
      refine V_vret dJ7_fill_53178_20 rfl (by decide) (by decide) ?_
      have hi : i = n := by have := leK (a := n) (b := i) (by omega) (by omega) h7; omega
      subst hi
      exact ⟨rfl, rfl⟩
    · skip
      have hi := nleK (a := n) (b := i) (by omega) (by omega) h7
      refine V_aload_n dJ7_fill_53178_10 rfl ?_
      refine V_iload_n dJ7_fill_53178_11 rfl ?_
      refine V_iload_n dJ7_fill_53178_12 rfl ?_
      refine V_iast q dJ7_fill_53178_13 (set_at he) (vp_in_nI hi (by omega)) ?_
      rw [nI_clamp (by omega), List.set_set, fillF_s]
      refine V_iinc dJ7_fill_53178_14 rfl rfl (by decide) ?_
      refine V_goto 5 dJ7_fill_53178_17 (by decide) ?_
      exact ih (i + 1) _ (by omega) (by omega) (nI_1 i)
set_option maxHeartbeats 4000000 in
set_option maxRecDepth 20000 in
theorem ct_fill {q a n : Nat} {f : Nat → Int32} (he : ws[q]? = some (a, .inl (cI E, n, .inl f))) (hn : n < 2 ^ 31) (v : Int32) : Ct E yJ7_fill_53178 cJ7_fill_53178 4 none 0 0 0 [.ref a, .int v] ws (fun r w => r = none ∧ w = ws.set q (a, .inl (cI E, n, .inl (fillF f v n)))) := by
  refine Ct_of mw_J7_fill_53178 rfl (Nat.le_of_ble_eq_true rfl) ?_
  refine V_iconst (v := 0) dJ7_fill_53178_0 (by decide) ?_
  refine V_istore_n dJ7_fill_53178_1 (by decide) ?_
  refine V_aload_n dJ7_fill_53178_2 rfl ?_
  refine V_alenI (q) dJ7_fill_53178_3 he rfl ?_
  refine V_istore_n dJ7_fill_53178_4 (by decide) ?_
  have e0 : ws.set q (a, .inl (cI E, n, .inl (fillF f v 0))) = ws := by
    have : fillF f v 0 = f := by funext j; simp [fillF]
    rw [this]
    exact set_same he
  have hh := lp_fill he hn v (n + 1) 0 _ (Nat.zero_le _) (by omega) rfl
  rw [e0] at hh
  exact hh
set_option maxHeartbeats 4000000 in
set_option maxRecDepth 20000 in
theorem ct_copyOf (hE : GH E tE mi) {q a n N : Nat} {f : Nat → Int32} (he : ws[q]? = some (a, .inl (cI E, n, .inl f))) (hn : n ≤ 1000) (hN : N ≤ n) : Ct E yJ7_copyOf_59c91 cJ7_copyOf_59c91 3 (some (.array .int)) 1 1 N [.ref a, .int (nI N)] ws (fun r w => ∃ a2 h, r = some (.ref a2) ∧ w = ws ++ [(a2, .inl (cI E, N, .inl h))] ∧ ∀ j, j < N → h j = f j) := by
  refine Ct_of mw_J7_copyOf_59c91 rfl (Nat.le_of_ble_eq_true rfl) ?_
  refine V_iload_n dJ7_copyOf_59c91_0 rfl ?_
  refine V_aload_n dJ7_copyOf_59c91_1 rfl ?_
  refine V_alenI (q) dJ7_copyOf_59c91_2 he rfl ?_
  refine V_icmp_ne 14 dJ7_copyOf_59c91_3 (by decide) (fun h3 => ?_) (fun h3 => ?_)
  · skip
    refine V_iload_n dJ7_copyOf_59c91_14 rfl ?_
    refine V_newaI (N := N) wd_ar_int dJ7_copyOf_59c91_15 (nI_pos (by omega)) (nI_clamp (by omega)) (by show N * 4 ≤ _; omega) (by decide) (by omega) (fun q2 => ?_)
    refine V_astore_n dJ7_copyOf_59c91_17 (by decide) ?_
    refine V_aload_n dJ7_copyOf_59c91_18 rfl ?_
    refine V_iconst (v := 0) dJ7_copyOf_59c91_19 (by decide) ?_
    refine V_aload_n dJ7_copyOf_59c91_20 rfl ?_
    refine V_iconst (v := 0) dJ7_copyOf_59c91_21 (by decide) ?_
    refine V_aload_n dJ7_copyOf_59c91_22 rfl ?_
    have hm1 : (if nI N < nI n then nI N else nI n).toNatClampNeg = if N < n then N else n := by
      by_cases q : N < n
      · rw [if_pos q, if_pos ((nI_ltI (by omega) (by omega)).mpr q), nI_clamp (by omega)]
      · rw [if_neg q, if_neg (fun z => q ((nI_ltI (by omega) (by omega)).mp z)), nI_clamp (by omega)]
    have hm0 : ¬ (if nI N < nI n then nI N else nI n) < 0 := by
      split
      · exact nI_pos (by omega)
      · exact nI_pos (by omega)
    refine V_alenI q (v := nI n) dJ7_copyOf_59c91_23 (app_lt he) rfl ?_
    refine V_iload_n dJ7_copyOf_59c91_24 rfl ?_
    refine V_mmin wd_mminL_J7_304 wd_mminS wd_mathI wd_mminC dJ7_copyOf_59c91_25 (by decide) (Nat.le_of_ble_eq_true rfl) (by decide) (by omega) ?_
    refine V_copyI q ws.length rfl dJ7_copyOf_59c91_28 (app_lt he) app_at (by decide) (by decide) hm0 (by rw [hm1]; show 0 + _ ≤ _; split <;> omega) (by rw [hm1]; show 0 + _ ≤ _; split <;> omega) (by decide) (Nat.le_of_ble_eq_true rfl) ?_
    rw [app_set]
    refine V_aload_n dJ7_copyOf_59c91_31 rfl ?_
    refine V_aret dJ7_copyOf_59c91_32 rfl (Or.inr ⟨_, rfl⟩) (Or.inr ⟨_, rfl⟩) (by decide) (by omega) ?_
    exact ⟨q2, _, rfl, rfl, fun j hj => by
      rw [hm1]
      rw [pk_cpy_in (show Int32.toNatClampNeg 0 ≤ j from Nat.zero_le j) (by show j < 0 + _; split <;> omega)]
      show f (0 + (j - 0)) = f j
      rw [Nat.zero_add, Nat.sub_zero]⟩
  · skip
    refine V_aload_n dJ7_copyOf_59c91_6 rfl ?_
    have e := (nI_eq (by omega) (by omega)).mp h3
    subst e
    refine V_cloneI q hE wd_clL_J7 dJ7_copyOf_59c91_7 he (by decide) (Nat.le_of_ble_eq_true rfl) (by decide) (by omega) (fun q2 => ?_)
    refine V_castI ws.length wd_clC_J7 dJ7_copyOf_59c91_10 app_at ?_
    refine V_aret dJ7_copyOf_59c91_13 rfl (Or.inr ⟨_, rfl⟩) (Or.inr ⟨_, rfl⟩) (by decide) (by omega) ?_
    exact ⟨q2, f, rfl, rfl, fun _ _ => rfl⟩
set_option maxHeartbeats 4000000 in
set_option maxRecDepth 20000 in
theorem ct_checkI3 {t n : Nat} (ht : t < n) (hn : n < 2 ^ 31) : Ct E yJ3_checkIndex_8e157 cJ3_checkIndex_8e157 3 (some (.int)) 0 0 0 [.int (nI t), .int (nI n), .null] ws (fun r w => r = some (.int (nI t)) ∧ w = ws) := by
  refine Ct_of mw_J3_checkIndex_8e157 rfl (Nat.le_of_ble_eq_true rfl) ?_
  refine V_iload_n dJ3_checkIndex_8e157_0 rfl ?_
  refine V_if_lt 9 dJ3_checkIndex_8e157_1 (by decide) (fun h1 => absurd h1 (nI_pos (by omega))) (fun h1 => ?_)
  refine V_iload_n dJ3_checkIndex_8e157_4 rfl ?_
  refine V_iload_n dJ3_checkIndex_8e157_5 rfl ?_
  refine V_icmp_lt 16 dJ3_checkIndex_8e157_6 (by decide) (fun h6 => ?_) (fun h6 => absurd (nI_lt ht (by omega)) h6)
  refine V_iload_n dJ3_checkIndex_8e157_16 rfl ?_
  refine V_iret dJ3_checkIndex_8e157_17 rfl (by decide) (by decide) ?_
  exact ⟨rfl, rfl⟩
set_option maxHeartbeats 4000000 in
set_option maxRecDepth 20000 in
theorem ct_checkI {t n : Nat} (ht : t < n) (hn : n < 2 ^ 31) : Ct E yJ15_checkIndex_7cf53 cJ15_checkIndex_7cf53 2 (some (.int)) 1 0 0 [.int (nI t), .int (nI n)] ws (fun r w => r = some (.int (nI t)) ∧ w = ws) := by
  refine Ct_of mw_J15_checkIndex_7cf53 rfl (Nat.le_of_ble_eq_true rfl) ?_
  refine V_iload_n dJ15_checkIndex_7cf53_0 rfl ?_
  refine V_iload_n dJ15_checkIndex_7cf53_1 rfl ?_
  refine V_null dJ15_checkIndex_7cf53_2 ?_
  refine V_rdS mw_J3_checkIndex_8e157 ms_J15_105 dJ15_checkIndex_7cf53_3 (ct_checkI3 ht hn) rfl rfl (Nat.le_of_ble_eq_true rfl) (by first | decide | omega) (by decide) (by decide) (by decide) ?_
  refine V_iret dJ15_checkIndex_7cf53_6 rfl (by decide) (by decide) ?_
  exact ⟨rfl, rfl⟩
set_option maxHeartbeats 4000000 in
set_option maxRecDepth 20000 in
theorem ct_size (hw : WF E ad el g w0 ws) : Ct E yJx4a65c_size_8abf5 cJx4a65c_size_8abf5 1 (some (.int)) 0 0 0 [.ref (ad 24)] ws (fun r w => r = some (.int (g 24 2)) ∧ w = ws) := by
  refine Ct_of mw_Jx4a65c_size_8abf5 rfl (Nat.le_of_ble_eq_true rfl) ?_
  refine V_aload_n dJx4a65c_size_8abf5_0 rfl ?_
  refine V_get (24) fl_Jx4a65c_48 dJx4a65c_size_8abf5_1 hw.p24 rfl ?_
  refine V_iret dJx4a65c_size_8abf5_4 rfl (by decide) (by decide) ?_
  exact ⟨rfl, rfl⟩
set_option maxHeartbeats 4000000 in
set_option maxRecDepth 20000 in
theorem ct_elementData (hw : WF E ad el g w0 ws) {qe cap : Nat} {fe : Nat → Option Nat} (he : ws[qe]? = some (el, rO E cap fe)) {t x : Nat} (ht : t < cap) (hc : cap < 2 ^ 31) (hx : fe t = some x) : Ct E yJx4a65c_elementData_915e3 cJx4a65c_elementData_915e3 2 (some (.object "java/lang/Object")) 0 0 0 [.ref (ad 24), .int (nI t)] ws (fun r w => r = some (.ref x) ∧ w = ws) := by
  refine Ct_of mw_Jx4a65c_elementData_915e3 rfl (Nat.le_of_ble_eq_true rfl) ?_
  refine V_aload_n dJx4a65c_elementData_915e3_0 rfl ?_
  refine V_get (24) fl_Jx4a65c_9 dJx4a65c_elementData_915e3_1 hw.p24 rfl ?_
  refine V_iload_n dJx4a65c_elementData_915e3_4 rfl ?_
  refine V_aald qe dJx4a65c_elementData_915e3_5 he (vp_in_nI ht hc) ?_
  rw [nI_clamp (by omega), hx]
  refine V_aret dJx4a65c_elementData_915e3_6 rfl (Or.inl ⟨_, rfl⟩) (Or.inr ⟨_, rfl⟩) (by decide) (by decide) ?_
  exact ⟨rfl, rfl⟩
set_option maxHeartbeats 4000000 in
set_option maxRecDepth 20000 in
theorem ct_get (hw : WF E ad el g w0 ws) {n : Nat} (hn : g 24 2 = nI n) {qe cap : Nat} {fe : Nat → Option Nat} (he : ws[qe]? = some (el, rO E cap fe)) {t x : Nat} (htn : t < n) (hnc : n ≤ cap) (hc : cap < 2 ^ 31) (hx : fe t = some x) : Ct E yJx4a65c_get_915e3 cJx4a65c_get_915e3 2 (some (.object "java/lang/Object")) 2 0 0 [.ref (ad 24), .int (nI t)] ws (fun r w => r = some (.ref x) ∧ w = ws) := by
  refine Ct_of mw_Jx4a65c_get_915e3 rfl (Nat.le_of_ble_eq_true rfl) ?_
  have ht : t < cap := by omega
  refine V_iload_n dJx4a65c_get_915e3_0 rfl ?_
  refine V_aload_n dJx4a65c_get_915e3_1 rfl ?_
  refine V_get (24) fl_Jx4a65c_48 dJx4a65c_get_915e3_2 hw.p24 rfl ?_
  rw [hn]
  refine V_rdS mw_J15_checkIndex_7cf53 ms_Jx4a65c_118 dJx4a65c_get_915e3_5 (ct_checkI htn (by omega)) rfl rfl (Nat.le_of_ble_eq_true rfl) (by first | decide | omega) (by decide) (by decide) (by decide) ?_
  refine V_pop dJx4a65c_get_915e3_8 rfl ?_
  refine V_aload_n dJx4a65c_get_915e3_9 rfl ?_
  refine V_iload_n dJx4a65c_get_915e3_10 rfl ?_
  refine V_callV (24) mw_Jx4a65c_elementData_915e3 mv_Jx4a65c_123 dJx4a65c_get_915e3_11 (ct_elementData hw he ht hc hx) hw.p24 rfl rfl rfl (Nat.le_of_ble_eq_true rfl) (by first | decide | omega) (by decide) (by decide) (by decide) (fun r11 ws1 hp11 => ?_)
  obtain ⟨rfl, rfl⟩ := hp11
  have hw1 := hw
  refine V_aret dJx4a65c_get_915e3_14 rfl (Or.inl ⟨_, rfl⟩) (Or.inr ⟨_, rfl⟩) (by decide) (by decide) ?_
  exact ⟨rfl, rfl⟩
end JD
