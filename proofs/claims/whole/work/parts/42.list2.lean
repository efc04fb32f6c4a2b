/-! ===== ArrayList: add, init; Train; the trains of the desk ===== -/
section LS2
variable {E : VE} {ad : Nat → Nat} {el : Nat} {g : Nat → Nat → Int32} {w0 ws : va_W} {tE mi : Nat}
set_option maxHeartbeats 4000000 in
set_option maxRecDepth 20000 in
theorem add_tail (hE : GH E tE mi) {n x qe qk q2 cap2 el1 : Nat} {fe f2 : Nat → Option Nat} {w1 : va_W} {cl sl : Nat} (hcl : cl ≤ 1) (hsl : sl ≤ 100) (hw1 : Wd E ad el1 g w1) (en : g 24 2 = nI n) (hn : n < 60) (hq2 : 46 ≤ q2) (h2 : w1[q2]? = some (el1, rO E cap2 f2)) (hn2 : n + 1 ≤ cap2) (hc2 : cap2 ≤ 100) (hf1 : ∀ i, i < n → f2 i = fe i) (hf2 : ∀ i, n ≤ i → f2 i = none) {vs : List Value} (hx : w1[qk]? = some (x, .inr (6, vs))) (hfr : ∀ j, 46 ≤ j → j < ws.length → j ≠ qe → w1[j]? = ws[j]?) (hqq : q2 = qe ∨ ws.length ≤ q2) : V E yJx4a65c_add_72be8 cJx4a65c_add_72be8 4 none 5 1 100 (fun r w => r = none ∧ AddQ E ad g n x qe fe ws w) 11 [some (.ref (ad 24)), some (.ref x), some (.ref el1), some (.int (nI n))] [] w1 cl sl := by
  refine V_aload_n dJx4a65c_add_72be8_11 rfl ?_
  refine V_iload_n dJx4a65c_add_72be8_12 rfl ?_
  refine V_aload_n dJx4a65c_add_72be8_13 rfl ?_
  refine V_aast q2 qk hE dJx4a65c_add_72be8_14 h2 hx (vp_in_nI (by omega) (by omega)) ?_
  rw [nI_clamp (by omega)]
  refine V_aload_n dJx4a65c_add_72be8_15 rfl ?_
  refine V_iload_n dJx4a65c_add_72be8_16 rfl ?_
  refine V_iconst (v := 1) dJx4a65c_add_72be8_17 (by decide) ?_
  refine V_iadd dJx4a65c_add_72be8_18 ?_
  refine V_put 24 fp_Jx4a65c_48 dJx4a65c_add_72be8_19 (show (w1.set q2 (el1, rO E cap2 (va_up f2 n (some x))))[24]? = some (ad 24, .inr (9, [.int (g 24 0), .ref el1, .int (g 24 2)])) from by rw [List.getElem?_set_ne (by omega)]; exact hw1.p24) rfl rfl (Nat.le_of_ble_eq_true rfl) ?_
  refine V_vret dJx4a65c_add_72be8_22 rfl hcl hsl ?_
  refine ⟨rfl, el1, q2, cap2, va_up f2 n (some x), ?_, hq2, ?_, hn2, hc2, va_up_self _ _ _, fun i hi => ?_, fun i hi => ?_, fun j hj1 hj2 hj3 => ?_, hqq⟩
  · have := (hw1.dyn (x := (el1, rO E cap2 (va_up f2 n (some x)))) hq2).set (k := 24) (r := upd (g 24) 2 (g 24 2 + 1)) (by decide) rfl
    rw [en] at this ⊢
    exact this
  · rw [List.getElem?_set_ne (by omega)]
    exact set_at h2
  · rw [va_up_ne _ _ (by omega)]; exact hf1 i hi
  · rw [va_up_ne _ _ (by omega)]; exact hf2 i (by omega)
  · rw [List.getElem?_set_ne (by omega)]
    rcases hqq with z | z
    · rw [List.getElem?_set_ne (by omega)]; exact hfr j hj1 hj2 hj3
    · rw [List.getElem?_set_ne (by omega)]; exact hfr j hj1 hj2 hj3
set_option maxHeartbeats 4000000 in
set_option maxRecDepth 20000 in
theorem ct_add3b (hE : GH E tE mi) (hw : Wd E ad el g ws) {n x qe cap : Nat} {fe : Nat → Option Nat} (en : g 24 2 = nI n) (hn : n < 60) (hqe : 46 ≤ qe) (he : ws[qe]? = some (el, rO E cap fe)) (hnc : n < cap) (hc : cap ≤ 100) (hfe : ∀ i, n ≤ i → fe i = none) {qk : Nat} {vs : List Value} (hx : ws[qk]? = some (x, .inr (6, vs))) (hqk : 46 ≤ qk) : Ct E yJx4a65c_add_72be8 cJx4a65c_add_72be8 4 none 5 1 100 [.ref (ad 24), .ref x, .ref el, .int (nI n)] ws (fun r w => r = none ∧ AddQ E ad g n x qe fe ws w) := by
  refine Ct_of mw_Jx4a65c_add_72be8 rfl (Nat.le_of_ble_eq_true rfl) ?_
  refine V_iload_n dJx4a65c_add_72be8_0 rfl ?_
  refine V_aload_n dJx4a65c_add_72be8_1 rfl ?_
  refine V_alenO qe dJx4a65c_add_72be8_2 he ?_
  refine V_icmp_ne 11 dJx4a65c_add_72be8_3 (by decide) (fun h3 => ?_) (fun h3 => absurd ((nI_eq (by omega) (by omega)).mp h3) (by omega))
  exact add_tail hE (by decide) (by decide) hw en hn hqe he (by omega) hc (fun _ _ => rfl) hfe hx (fun _ _ _ _ => rfl) (Or.inl rfl)
set_option maxHeartbeats 4000000 in
set_option maxRecDepth 20000 in
theorem ct_add3a (hE : GH E tE mi) (hw : Wd E ad tE g ws) {x qe : Nat} {fe : Nat → Option Nat} (en : g 24 2 = 0) {qk : Nat} {vs : List Value} (hx : ws[qk]? = some (x, .inr (6, vs))) (hqk : 46 ≤ qk) : Ct E yJx4a65c_add_72be8 cJx4a65c_add_72be8 4 none 5 1 100 [.ref (ad 24), .ref x, .ref tE, .int 0] ws (fun r w => r = none ∧ AddQ E ad g 0 x qe fe ws w) := by
  refine Ct_of mw_Jx4a65c_add_72be8 rfl (Nat.le_of_ble_eq_true rfl) ?_
  refine V_iload_n dJx4a65c_add_72be8_0 rfl ?_
  refine V_aload_n dJx4a65c_add_72be8_1 rfl ?_
  refine V_tlenE hE dJx4a65c_add_72be8_2 ?_
  refine V_icmp_ne 11 dJx4a65c_add_72be8_3 (by decide) (fun h3 => absurd rfl h3) (fun h3 => ?_)
  refine V_aload_n dJx4a65c_add_72be8_6 rfl ?_
  refine V_callV (24) mw_Jx4a65c_grow_d5877 mv_Jx4a65c_129 dJx4a65c_add_72be8_7 (ct_grow0A hE (WF.rf hw) en) hw.p24 rfl rfl rfl (Nat.le_of_ble_eq_true rfl) (by first | decide | omega) (by decide) (by decide) (by decide) (fun r7 ws1 hp7 => ?_)
  obtain ⟨a2, rfl, rfl⟩ := hp7
  have hw1 := hw
  refine V_astore_n dJx4a65c_add_72be8_10 (by decide) ?_
  have hlen := hw.len
  refine add_tail hE (n := 0) (fe := fe) (qk := qk) (q2 := ws.length) (cap2 := 10) (f2 := fun _ => none) (by decide) (by decide) (hw.app.el) en (by decide) hlen ?_ (by decide) (by decide) (fun i hi => absurd hi (Nat.not_lt_zero _)) (fun _ _ => rfl) (vs := vs) ?_ (fun j h1 h2 h3 => ?_) (Or.inr (Nat.le_refl _))
  · rw [List.getElem?_set_ne (by omega)]; exact app_at
  · rw [List.getElem?_set_ne (by omega)]; exact app_lt hx
  · rw [List.getElem?_set_ne (by omega), List.getElem?_append_left h2]
set_option maxHeartbeats 4000000 in
set_option maxRecDepth 20000 in
theorem ct_add3c (hE : GH E tE mi) (hw : Wd E ad el g ws) {n x qe : Nat} {fe : Nat → Option Nat} (en : g 24 2 = nI n) (hn1 : 1 ≤ n) (hn : n < 60) (hqe : 46 ≤ qe) (he : ws[qe]? = some (el, rO E n fe)) (hel : ∀ i v, i < n → fe i = some v → ∃ (qv : Nat) (fs : List Value), ws[qv]? = some (v, .inr (6, fs))) {qk : Nat} {vs : List Value} (hx : ws[qk]? = some (x, .inr (6, vs))) (hqk : 46 ≤ qk) : Ct E yJx4a65c_add_72be8 cJx4a65c_add_72be8 4 none 5 1 100 [.ref (ad 24), .ref x, .ref el, .int (nI n)] ws (fun r w => r = none ∧ AddQ E ad g n x qe fe ws w) := by
  refine Ct_of mw_Jx4a65c_add_72be8 rfl (Nat.le_of_ble_eq_true rfl) ?_
  refine V_iload_n dJx4a65c_add_72be8_0 rfl ?_
  refine V_aload_n dJx4a65c_add_72be8_1 rfl ?_
  refine V_alenO qe dJx4a65c_add_72be8_2 he ?_
  refine V_icmp_ne 11 dJx4a65c_add_72be8_3 (by decide) (fun h3 => absurd rfl h3) (fun h3 => ?_)
  refine V_aload_n dJx4a65c_add_72be8_6 rfl ?_
  refine V_callV (24) mw_Jx4a65c_grow_d5877 mv_Jx4a65c_129 dJx4a65c_add_72be8_7 (ct_grow0B hE (WF.rf hw) he hel hn1 hn en) hw.p24 rfl rfl rfl (Nat.le_of_ble_eq_true rfl) (by first | decide | omega) (by decide) (by decide) (by decide) (fun r7 ws1 hp7 => ?_)
  obtain ⟨a2, rfl, rfl⟩ := hp7
  have hw1 := hw
  refine V_astore_n dJx4a65c_add_72be8_10 (by decide) ?_
  have hlen := hw.len
  refine add_tail hE (n := n) (fe := fe) (qk := qk) (q2 := ws.length) (cap2 := n + (if 1 < n / 2 then n / 2 else 1)) (f2 := va_cpy fe (fun _ => none) 0 0 n) (by decide) (by decide) (hw.app.el) en hn hlen ?_ (by split <;> omega) (by split <;> omega) (fun i hi => ?_) (fun i hi => ?_) (vs := vs) ?_ (fun j h1 h2 h3 => ?_) (Or.inr (Nat.le_refl _))
  · rw [List.getElem?_set_ne (by omega)]; exact app_at
  · rw [pk_cpy_in (Nat.zero_le _) (by omega), Nat.zero_add, Nat.sub_zero]
  · rw [pk_cpy_out (Or.inr (by omega))]
  · rw [List.getElem?_set_ne (by omega)]; exact app_lt hx
  · rw [List.getElem?_set_ne (by omega), List.getElem?_append_left h2]
set_option maxHeartbeats 4000000 in
set_option maxRecDepth 20000 in
theorem ct_add (hw : Wd E ad el g ws) {x : Nat} {P : va_W → Prop} (hC : Ct E yJx4a65c_add_72be8 cJx4a65c_add_72be8 4 none 5 1 100 [.ref (ad 24), .ref x, .ref el, .int (g 24 2)] (ws.set 24 (ad 24, cellOf E ad el 24 (upd (g 24) 0 (g 24 0 + 1)))) (fun r w => r = none ∧ P w)) : Ct E yJx4a65c_add_9ea2d cJx4a65c_add_9ea2d 2 (some (.boolean)) 6 1 100 [.ref (ad 24), .ref x] ws (fun r w => r = some (.int 1) ∧ P w) := by
  refine Ct_of mw_Jx4a65c_add_9ea2d rfl (Nat.le_of_ble_eq_true rfl) ?_
  refine V_aload_n dJx4a65c_add_9ea2d_0 rfl ?_
  refine V_dup dJx4a65c_add_9ea2d_1 rfl ?_
  refine V_getMC 24 rfl dJx4a65c_add_9ea2d_2 hw.p24 rfl ?_
  refine V_iconst (v := 1) dJx4a65c_add_9ea2d_5 (by decide) ?_
  refine V_iadd dJx4a65c_add_9ea2d_6 ?_
  refine V_putMC 24 rfl dJx4a65c_add_9ea2d_7 hw.p24 (Nat.le_of_ble_eq_true rfl) ?_
  have hw1 : WF E ad el (va_up g 24 (upd (g 24) 0 (g 24 0 + 1))) ws (ws.set 24 (ad 24, cellOf E ad el 24 (upd (g 24) 0 (g 24 0 + 1)))) := (WF.rf hw).set (k := 24) (r := upd (g 24) 0 (g 24 0 + 1)) (by decide) rfl
  refine V_aload_n dJx4a65c_add_9ea2d_10 rfl ?_
  refine V_aload_n dJx4a65c_add_9ea2d_11 rfl ?_
  refine V_aload_n dJx4a65c_add_9ea2d_12 rfl ?_
  refine V_get (24) fl_Jx4a65c_9 dJx4a65c_add_9ea2d_13 hw1.p24 rfl ?_
  refine V_aload_n dJx4a65c_add_9ea2d_16 rfl ?_
  refine V_get (24) fl_Jx4a65c_48 dJx4a65c_add_9ea2d_17 hw1.p24 rfl ?_
  refine V_callV (24) mw_Jx4a65c_add_72be8 mv_Jx4a65c_131 dJx4a65c_add_9ea2d_20 (hC) hw1.p24 rfl rfl rfl (Nat.le_of_ble_eq_true rfl) (by first | decide | omega) (by decide) (by decide) (by decide) (fun r20 ws1 hp20 => ?_)
  obtain ⟨rfl, hq⟩ := hp20
  have hw1 := hw
  refine V_iconst (v := 1) dJx4a65c_add_9ea2d_23 (by decide) ?_
  refine V_zret dJx4a65c_add_9ea2d_24 rfl (by first | exact Or.inl rfl | exact Or.inr rfl) (by decide) (by decide) ?_
  exact ⟨rfl, hq⟩
end LS2
