/-! ===== the desk's trains ===== -/
abbrev TR : Type := Nat × (Nat → Int32) × (Nat → Int32) × Int32 × Int32
def TrAt (E : VE) (ws : va_W) (b xa xo xb : Nat) (r : TR) : Prop := 46 ≤ b ∧ ws[b]? = some (xa, .inl (cI E, r.1, .inl r.2.1)) ∧ ws[b + 1]? = some (xo, .inr (6, [.ref xa, .ref xb, .int r.2.2.2.1, .int r.2.2.2.2])) ∧ ws[b + 2]? = some (xb, .inl (cI E, r.1, .inl r.2.2.1))
def DY0 (E : VE) (el tE n : Nat) (T : Nat → TR) (ws : va_W) (tb xa xo xb : Nat → Nat) (qe cap : Nat) (fe : Nat → Option Nat) : Prop := (∀ t, t < n → TrAt E ws (tb t) (xa t) (xo t) (xb t) (T t)) ∧ (∀ t u, t < n → u < n → tb t = tb u → t = u) ∧ ((n = 0 ∧ el = tE) ∨ (1 ≤ n ∧ 46 ≤ qe ∧ ws[qe]? = some (el, rO E cap fe) ∧ n ≤ cap ∧ cap ≤ 100 ∧ (∀ t, t < n → fe t = some (xo t)) ∧ ∀ i, n ≤ i → fe i = none))
def DY (E : VE) (el tE n : Nat) (T : Nat → TR) (ws : va_W) : Prop := ∃ tb xa xo xb qe cap fe, DY0 E el tE n T ws tb xa xo xb qe cap fe
theorem TrAt.to {E : VE} {ws w : va_W} {b xa xo xb : Nat} {r : TR} (h : TrAt E ws b xa xo xb r) (hf : ∀ j, 46 ≤ j → j < ws.length → w[j]? = ws[j]?) : TrAt E w b xa xo xb r := by
  obtain ⟨h0, h1, h2, h3⟩ := h
  exact ⟨h0, by rw [hf b h0 (List.getElem?_eq_some_iff.mp h1).1]; exact h1, by rw [hf _ (by omega) (List.getElem?_eq_some_iff.mp h2).1]; exact h2, by rw [hf _ (by omega) (List.getElem?_eq_some_iff.mp h3).1]; exact h3⟩
theorem DY.to {E : VE} {el tE n : Nat} {T : Nat → TR} {ws w : va_W} (h : DY E el tE n T ws) (hf : ∀ j, 46 ≤ j → j < ws.length → w[j]? = ws[j]?) : DY E el tE n T w := by
  obtain ⟨tb, xa, xo, xb, qe, cap, fe, h1, h2, h3⟩ := h
  refine ⟨tb, xa, xo, xb, qe, cap, fe, fun t ht => (h1 t ht).to hf, h2, ?_⟩
  rcases h3 with z | ⟨z1, z2, z3, z4⟩
  · exact Or.inl z
  · exact Or.inr ⟨z1, z2, by rw [hf qe z2 (List.getElem?_eq_some_iff.mp z3).1]; exact z3, z4⟩
theorem DY.fr {E : VE} {el tE n : Nat} {T : Nat → TR} {ws w : va_W} (h : DY E el tE n T ws) (hf : Fr ws w) : DY E el tE n T w := h.to (fun j hj _ => hf.2 j hj)
def isTr (g : Nat → Nat → Int32) (t : Int32) : Bool := !decide (t < 0) && !decide (g 24 2 ≤ t)
def lastI (f : Nat → Int32) : Nat → Int32
  | 0 => -1
  | k + 1 => if f k = 0 then nI k else lastI f k
abbrev bk (T : Nat → TR) : Nat → Int32 := fun t => (T t).2.2.2.2
theorem isTr_in {g : Nat → Nat → Int32} {p : Int32} {n : Nat} (hn : g 24 2 = nI n) (hn60 : n ≤ 60) (h : isTr g p = true) : ∃ j, j < n ∧ p = nI j := by
  simp only [isTr, Bool.and_eq_true, Bool.not_eq_true', decide_eq_false_iff_not] at h
  rcases pk_ix p (n := n) (by omega) with q | q | q
  · exact absurd q h.1
  · exact absurd (by rw [hn]; exact q) h.2
  · exact q
section TRN
variable {E : VE} {ad : Nat → Nat} {el : Nat} {g : Nat → Nat → Int32} {w0 ws : va_W} {tE mi : Nat}
set_option maxHeartbeats 4000000 in
set_option maxRecDepth 20000 in
theorem ct_getT (hE : GH E tE mi) (hw : WF E ad el g w0 ws) {n : Nat} {T : Nat → TR} {tb xa xo xb : Nat → Nat} {qe cap : Nat} {fe : Nat → Option Nat} (hd : DY0 E el tE n T ws tb xa xo xb qe cap fe) (hn : g 24 2 = nI n) (hn60 : n ≤ 60) {t : Nat} (ht : t < n) : Ct E yJx4a65c_get_915e3 cJx4a65c_get_915e3 2 (some (.object "java/lang/Object")) 2 0 0 [.ref (ad 24), .int (nI t)] ws (fun r w => r = some (.ref (xo t)) ∧ w = ws) := by
  obtain ⟨h1, h2, h3⟩ := hd
  rcases h3 with ⟨z, -⟩ | ⟨z1, z2, z3, z4, z5, z6, z7⟩
  · omega
  · exact ct_get hw hn z3 ht z4 (by omega) (z6 t ht)
set_option maxHeartbeats 4000000 in
set_option maxRecDepth 20000 in
theorem ct_X7_isTrain (hw : WF E ad el g w0 ws) (t : Int32) : Ct E yX7_isTrain cX7_isTrain 2 (some (.boolean)) 1 0 0 [.ref (ad 0), .int t] ws (fun r w => r = some (.int (bI (isTr g t))) ∧ w = ws) := by
  refine Ct_of mw_X7_isTrain rfl (Nat.le_of_ble_eq_true rfl) ?_
  refine V_iload_n dX7_isTrain_0 rfl ?_
  refine V_if_lt 19 dX7_isTrain_1 (by decide) (fun h1 => ?_) (fun h1 => ?_)
  · skip
    refine V_iconst (v := 0) dX7_isTrain_19 (by decide) ?_
    refine V_zret dX7_isTrain_20 rfl (by first | exact Or.inl rfl | exact Or.inr rfl) (by decide) (by decide) ?_
    exact ⟨by simp [bI, isTr, h1], rfl⟩
  · skip
    refine V_iload_n dX7_isTrain_4 rfl ?_
    refine V_aload_n dX7_isTrain_5 rfl ?_
    refine V_get (0) fl_X7_61 dX7_isTrain_6 hw.p0 rfl ?_
    refine V_rdV (24) mw_Jx4a65c_size_8abf5 mv_X7_160 dX7_isTrain_9 (ct_size hw) hw.p24 rfl rfl rfl (Nat.le_of_ble_eq_true rfl) (by first | decide | omega) (by decide) (by decide) (by decide) ?_
    refine V_icmp_ge 19 dX7_isTrain_12 (by decide) (fun h12 => ?_) (fun h12 => ?_)
    · skip
      refine V_iconst (v := 0) dX7_isTrain_19 (by decide) ?_
      refine V_zret dX7_isTrain_20 rfl (by first | exact Or.inl rfl | exact Or.inr rfl) (by decide) (by decide) ?_
      exact ⟨by simp [bI, isTr, h1, h12], rfl⟩
    · skip
      refine V_iconst (v := 1) dX7_isTrain_15 (by decide) ?_
      refine V_goto 20 dX7_isTrain_16 (by decide) ?_
      refine V_zret dX7_isTrain_20 rfl (by first | exact Or.inl rfl | exact Or.inr rfl) (by decide) (by decide) ?_
      exact ⟨by simp [bI, isTr, h1, h12], rfl⟩
set_option maxHeartbeats 4000000 in
set_option maxRecDepth 20000 in
theorem lp_X7_latestOut (hE : GH E tE mi) (hw : WF E ad el g w0 ws) {n : Nat} {T : Nat → TR} {tb xa xo xb : Nat → Nat} {qe cap : Nat} {fe : Nat → Option Nat} (hd : DY0 E el tE n T ws tb xa xo xb qe cap fe) (hn : g 24 2 = nI n) (hn60 : n ≤ 60) : ∀ (t : Nat) (x : Int32), x = nI t + (-1) → t ≤ n → lastI (bk T) n = lastI (bk T) t → V E yX7_latestOut cX7_latestOut 2 (some (.int)) 3 0 0 (fun r w => r = some (.int (lastI (bk T) n)) ∧ w = ws) 10 [some (.ref (ad 0)), some (.int x)] [] ws 0 0 := by
  have hE1 := hE.1
  intro t
  induction t with
  | zero =>
    intro x hx ht0 hinv
    rw [show nI 0 + (-1 : Int32) = -1 from by decide] at hx
    subst hx
    refine V_iload_n dX7_latestOut_10 rfl ?_
    refine V_if_lt 39 dX7_latestOut_11 (by decide) (fun h11 => ?_) (fun h11 => absurd (by decide) h11)
    refine V_iconst (v := -1) dX7_latestOut_39 (by decide) ?_
    refine V_iret dX7_latestOut_40 rfl (by decide) (by decide) ?_
    exact ⟨by rw [hinv]; rfl, rfl⟩
  | succ t ih =>
    intro x hx ht0 hinv
    rw [pk_m1] at hx
    subst hx
    refine V_iload_n dX7_latestOut_10 rfl ?_
    refine V_if_lt 39 dX7_latestOut_11 (by decide) (fun h11 => absurd h11 (nI_pos (by omega))) (fun h11 => ?_)
    have ht : t < n := by omega
    refine V_aload_n dX7_latestOut_14 rfl ?_
    refine V_get (0) fl_X7_61 dX7_latestOut_15 hw.p0 rfl ?_
    refine V_iload_n dX7_latestOut_18 rfl ?_
    refine V_callV (24) mw_Jx4a65c_get_915e3 mv_X7_189 dX7_latestOut_19 (ct_getT hE hw hd hn hn60 ht) hw.p24 rfl rfl rfl (Nat.le_of_ble_eq_true rfl) (by first | decide | omega) (by decide) (by decide) (by decide) (fun r19 ws1 hp19 => ?_)
    obtain ⟨rfl, rfl⟩ := hp19
    have hw1 := hw
    refine V_castT (tb t + 1) wd_cl_X7_169 dX7_latestOut_22 (hd.1 t ht).2.2.1 ?_
    refine V_getN (tb t + 1) hE1 fn_X7_209 dX7_latestOut_25 (hd.1 t ht).2.2.1 rfl ?_
    refine V_if_ne 33 dX7_latestOut_28 (by decide) (fun h28 => ?_) (fun h28 => ?_)
    · skip
      refine V_iinc dX7_latestOut_33 rfl rfl (by decide) ?_
      refine V_goto 10 dX7_latestOut_36 (by decide) ?_
      exact ih _ rfl (by omega) (by rw [hinv, lastI, if_neg h28])
    · skip
      refine V_iload_n dX7_latestOut_31 rfl ?_
      refine V_iret dX7_latestOut_32 rfl (by decide) (by decide) ?_
      exact ⟨by rw [hinv, lastI, if_pos h28], rfl⟩
set_option maxHeartbeats 4000000 in
set_option maxRecDepth 20000 in
theorem ct_X7_latestOut (hE : GH E tE mi) (hw : WF E ad el g w0 ws) {n : Nat} {T : Nat → TR} {tb xa xo xb : Nat → Nat} {qe cap : Nat} {fe : Nat → Option Nat} (hd : DY0 E el tE n T ws tb xa xo xb qe cap fe) (hn : g 24 2 = nI n) (hn60 : n ≤ 60) : Ct E yX7_latestOut cX7_latestOut 2 (some (.int)) 3 0 0 [.ref (ad 0)] ws (fun r w => r = some (.int (lastI (bk T) n)) ∧ w = ws) := by
  refine Ct_of mw_X7_latestOut rfl (Nat.le_of_ble_eq_true rfl) ?_
  refine V_aload_n dX7_latestOut_0 rfl ?_
  refine V_get (0) fl_X7_61 dX7_latestOut_1 hw.p0 rfl ?_
  refine V_rdV (24) mw_Jx4a65c_size_8abf5 mv_X7_160 dX7_latestOut_4 (ct_size hw) hw.p24 rfl rfl rfl (Nat.le_of_ble_eq_true rfl) (by first | decide | omega) (by decide) (by decide) (by decide) ?_
  rw [hn]
  refine V_iconst (v := 1) dX7_latestOut_7 (by decide) ?_
  refine V_isub dX7_latestOut_8 ?_
  refine V_istore_n dX7_latestOut_9 (by decide) ?_
  exact lp_X7_latestOut hE hw hd hn hn60 n _ (by rw [show nI n - (1 : Int32) = nI n + (-1) from Int32.sub_eq_add_neg _ _]) (Nat.le_refl _) rfl
set_option maxHeartbeats 4000000 in
set_option maxRecDepth 20000 in
theorem lp_X7_trainsOut (hE : GH E tE mi) (hw : WF E ad el g w0 ws) {n : Nat} {T : Nat → TR} {tb xa xo xb : Nat → Nat} {qe cap : Nat} {fe : Nat → Option Nat} (hd : DY0 E el tE n T ws tb xa xo xb qe cap fe) (hn : g 24 2 = nI n) (hn60 : n ≤ 60) : ∀ (k t : Nat) (x m : Int32), t ≤ n → n < t + k → x = nI t → m = nI (outN (bk T) t) → V E yX7_trainsOut cX7_trainsOut 3 (some (.int)) 3 0 0 (fun r w => r = some (.int (nI (outN (bk T) n))) ∧ w = ws) 4 [some (.ref (ad 0)), some (.int m), some (.int x)] [] ws 0 0 := by
  have hE1 := hE.1
  intro k
  induction k with
  | zero => intro t x m h1 h2; exact absurd h2 (by omega)
  | succ k ih =>
    intro t x m htl htn hx hm
    subst hx hm
    refine V_iload_n dX7_trainsOut_4 rfl ?_
    refine V_aload_n dX7_trainsOut_5 rfl ?_
    refine V_get (0) fl_X7_61 dX7_trainsOut_6 hw.p0 rfl ?_
    refine V_rdV (24) mw_Jx4a65c_size_8abf5 mv_X7_160 dX7_trainsOut_9 (ct_size hw) hw.p24 rfl rfl rfl (Nat.le_of_ble_eq_true rfl) (by first | decide | omega) (by decide) (by decide) (by decide) ?_
    refine V_icmp_ge 41 dX7_trainsOut_12 (by decide) (fun h12 => ?_) (fun h12 => ?_)
    · skip
      refine V_iload_n dX7_trainsOut_41 rfl ?_
      refine V_iret dX7_trainsOut_42 rfl (by decide) (by decide) ?_
      have ht : t = n := by have := leK (a := n) (b := t) (by omega) (by omega) (by rw [← hn]; exact h12); omega
      subst ht
      exact ⟨rfl, rfl⟩
    · skip
      have ht := nleK (a := n) (b := t) (by omega) (by omega) (by rw [← hn]; exact h12)
      refine V_aload_n dX7_trainsOut_15 rfl ?_
      refine V_get (0) fl_X7_61 dX7_trainsOut_16 hw.p0 rfl ?_
      refine V_iload_n dX7_trainsOut_19 rfl ?_
      refine V_callV (24) mw_Jx4a65c_get_915e3 mv_X7_189 dX7_trainsOut_20 (ct_getT hE hw hd hn hn60 ht) hw.p24 rfl rfl rfl (Nat.le_of_ble_eq_true rfl) (by first | decide | omega) (by decide) (by decide) (by decide) (fun r20 ws1 hp20 => ?_)
      obtain ⟨rfl, rfl⟩ := hp20
      have hw1 := hw
      refine V_castT (tb t + 1) wd_cl_X7_169 dX7_trainsOut_23 (hd.1 t ht).2.2.1 ?_
      refine V_getN (tb t + 1) hE1 fn_X7_209 dX7_trainsOut_26 (hd.1 t ht).2.2.1 rfl ?_
      refine V_if_ne 35 dX7_trainsOut_29 (by decide) (fun h29 => ?_) (fun h29 => ?_)
      · skip
        refine V_iinc dX7_trainsOut_35 rfl rfl (by decide) ?_
        refine V_goto 4 dX7_trainsOut_38 (by decide) ?_
        exact ih (t + 1) _ _ (by omega) (by omega) (nI_1 t) (by rw [outN, if_neg h29])
      · skip
        refine V_iinc dX7_trainsOut_32 rfl rfl (by decide) ?_
        refine V_iinc dX7_trainsOut_35 rfl rfl (by decide) ?_
        refine V_goto 4 dX7_trainsOut_38 (by decide) ?_
        exact ih (t + 1) _ _ (by omega) (by omega) (nI_1 t) (by rw [outN, if_pos h29]; exact nI_1 _)
set_option maxHeartbeats 4000000 in
set_option maxRecDepth 20000 in
theorem ct_X7_trainsOut (hE : GH E tE mi) (hw : WF E ad el g w0 ws) {n : Nat} {T : Nat → TR} {tb xa xo xb : Nat → Nat} {qe cap : Nat} {fe : Nat → Option Nat} (hd : DY0 E el tE n T ws tb xa xo xb qe cap fe) (hn : g 24 2 = nI n) (hn60 : n ≤ 60) : Ct E yX7_trainsOut cX7_trainsOut 3 (some (.int)) 3 0 0 [.ref (ad 0)] ws (fun r w => r = some (.int (nI (outN (bk T) n))) ∧ w = ws) := by
  refine Ct_of mw_X7_trainsOut rfl (Nat.le_of_ble_eq_true rfl) ?_
  refine V_iconst (v := 0) dX7_trainsOut_0 (by decide) ?_
  refine V_istore_n dX7_trainsOut_1 (by decide) ?_
  refine V_iconst (v := 0) dX7_trainsOut_2 (by decide) ?_
  refine V_istore_n dX7_trainsOut_3 (by decide) ?_
  exact lp_X7_trainsOut hE hw hd hn hn60 (n + 1) 0 _ _ (Nat.zero_le _) (by omega) rfl rfl
def dBrought (g : Nat → Nat → Int32) (T : Nat → TR) (t : Int32) : Int32 := if isTr g t = true then (T t.toNatClampNeg).2.2.2.1 else -1
set_option maxHeartbeats 4000000 in
set_option maxRecDepth 20000 in
theorem ct_X7_brought (hE : GH E tE mi) (hw : WF E ad el g w0 ws) {n : Nat} {T : Nat → TR} {tb xa xo xb : Nat → Nat} {qe cap : Nat} {fe : Nat → Option Nat} (hd : DY0 E el tE n T ws tb xa xo xb qe cap fe) (hn : g 24 2 = nI n) (hn60 : n ≤ 60) (tt : Int32) : Ct E yX7_brought cX7_brought 2 (some (.int)) 3 0 0 [.ref (ad 0), .int tt] ws (fun r w => r = some (.int (dBrought g T tt)) ∧ w = ws) := by
  refine Ct_of mw_X7_brought rfl (Nat.le_of_ble_eq_true rfl) ?_
  have hE1 := hE.1
  refine V_aload_n dX7_brought_0 rfl ?_
  refine V_iload_n dX7_brought_1 rfl ?_
  refine V_rdV (0) mw_X7_isTrain mv_X7_226 dX7_brought_2 (ct_X7_isTrain hw tt) hw.p0 rfl rfl rfl (Nat.le_of_ble_eq_true rfl) (by first | decide | omega) (by decide) (by decide) (by decide) ?_
  refine V_if_eq 25 dX7_brought_5 (by decide) (fun h5 => ?_) (fun h5 => ?_)
  · skip
    refine V_iconst (v := -1) dX7_brought_25 (by decide) ?_
    refine V_iret dX7_brought_26 rfl (by decide) (by decide) ?_
    exact fin1 (by rw [dBrought, if_neg (nb (bI_0 h5))])
  · skip
    obtain ⟨t, ht, rfl⟩ := isTr_in hn hn60 (bI_1 h5)
    refine V_aload_n dX7_brought_8 rfl ?_
    refine V_get (0) fl_X7_61 dX7_brought_9 hw.p0 rfl ?_
    refine V_iload_n dX7_brought_12 rfl ?_
    refine V_callV (24) mw_Jx4a65c_get_915e3 mv_X7_189 dX7_brought_13 (ct_getT hE hw hd hn hn60 ht) hw.p24 rfl rfl rfl (Nat.le_of_ble_eq_true rfl) (by first | decide | omega) (by decide) (by decide) (by decide) (fun r13 ws1 hp13 => ?_)
    obtain ⟨rfl, rfl⟩ := hp13
    have hw1 := hw
    refine V_castT (tb t + 1) wd_cl_X7_169 dX7_brought_16 (hd.1 t ht).2.2.1 ?_
    refine V_getN (tb t + 1) hE1 fn_X7_193 dX7_brought_19 (hd.1 t ht).2.2.1 rfl ?_
    refine V_goto 26 dX7_brought_22 (by decide) ?_
    refine V_iret dX7_brought_26 rfl (by decide) (by decide) ?_
    exact fin1 (by rw [dBrought, if_pos (bI_1 h5), nI_clamp (by omega)])
def dCount (g : Nat → Nat → Int32) (T : Nat → TR) (nN n : Nat) (wh : Int32) : Int32 × (Nat → Nat → Int32) := if wh = 0 then (g 0 9, g) else if wh = 1 then (g 8 7, g) else if wh = 2 then (g 16 1, g) else if wh = 3 then (g 24 2, g) else if wh = 4 then (nI (outN (bk T) n), g) else if wh = 5 then (nI (popc (maskN (g 3) 10)), g) else if wh = 6 then (g 21 2, g) else if wh = 7 then (if cutB g = true then (1, g) else (0, g)) else if wh = 8 then (if brkD (wTo g nN) nN 0 = -1 then (1, wTo g nN) else (0, wTo g nN)) else (-1, g)
set_option maxHeartbeats 4000000 in
set_option maxRecDepth 20000 in
theorem ct_X7_count (hE : GH E tE mi) (hw : Wd E ad el g ws) {n : Nat} {T : Nat → TR} {tb xa xo xb : Nat → Nat} {qe cap : Nat} {fe : Nat → Option Nat} (hd : DY0 E el tE n T ws tb xa xo xb qe cap fe) (hn : g 24 2 = nI n) (hn60 : n ≤ 60) {nN : Nat} (hN : g 8 7 = nI nN) (hN30 : nN ≤ 30) (hok : NOK g nN) (wh : Int32) : Ct E yX7_count cX7_count 2 (some (.int)) 5 0 0 [.ref (ad 0), .int wh] ws (fun r w => r = some (.int (dCount g T nN n wh).1) ∧ WF E ad el (dCount g T nN n wh).2 ws w) := by
  refine Ct_of mw_X7_count rfl (Nat.le_of_ble_eq_true rfl) ?_
  have hE1 := hE.1
  have hw := WF.rf hw
  refine V_iload_n dX7_count_0 rfl ?_
  rcases pk_ix wh (n := 9) (by decide) with q | q | ⟨j, hj, rfl⟩
  · refine V_tableOut 133 dX7_count_1 (Or.inl (by rw [Int32.lt_iff_toInt_lt] at q; exact q)) (by decide) ?_
    refine V_iconst (v := -1) dX7_count_133 (by decide) ?_
    refine V_iret dX7_count_134 rfl (by decide) (by decide) ?_
    have n0 : ∀ j, j < 9 → ¬ wh = nI j := fun j hj e => by rw [e] at q; exact absurd q (nI_pos (by omega))
    exact fin2 (by rw [dCount, if_neg (show ¬ wh = 0 from n0 0 (by decide)), if_neg (show ¬ wh = 1 from n0 1 (by decide)), if_neg (show ¬ wh = 2 from n0 2 (by decide)), if_neg (show ¬ wh = 3 from n0 3 (by decide)), if_neg (show ¬ wh = 4 from n0 4 (by decide)), if_neg (show ¬ wh = 5 from n0 5 (by decide)), if_neg (show ¬ wh = 6 from n0 6 (by decide)), if_neg (show ¬ wh = 7 from n0 7 (by decide)), if_neg (show ¬ wh = 8 from n0 8 (by decide))]; try rfl) hw
  · refine V_tableOut 133 dX7_count_1 (Or.inr (by rw [Int32.le_iff_toInt_le, nI_toInt (by decide)] at q; omega)) (by decide) ?_
    refine V_iconst (v := -1) dX7_count_133 (by decide) ?_
    refine V_iret dX7_count_134 rfl (by decide) (by decide) ?_
    have n0 : ∀ j, j < 9 → ¬ wh = nI j := fun j hj e => by rw [e] at q; exact absurd (leK (by decide) (by omega) q) (by omega)
    exact fin2 (by rw [dCount, if_neg (show ¬ wh = 0 from n0 0 (by decide)), if_neg (show ¬ wh = 1 from n0 1 (by decide)), if_neg (show ¬ wh = 2 from n0 2 (by decide)), if_neg (show ¬ wh = 3 from n0 3 (by decide)), if_neg (show ¬ wh = 4 from n0 4 (by decide)), if_neg (show ¬ wh = 5 from n0 5 (by decide)), if_neg (show ¬ wh = 6 from n0 6 (by decide)), if_neg (show ¬ wh = 7 from n0 7 (by decide)), if_neg (show ¬ wh = 8 from n0 8 (by decide))]; try rfl) hw
  · rcases (show j = 0 ∨ j = 1 ∨ j = 2 ∨ j = 3 ∨ j = 4 ∨ j = 5 ∨ j = 6 ∨ j = 7 ∨ j = 8 by omega) with rfl | rfl | rfl | rfl | rfl | rfl | rfl | rfl | rfl
    · refine V_tableIn 52 dX7_count_1 (by decide) (by decide) rfl (by decide) ?_
      refine V_aload_n dX7_count_52 rfl ?_
      refine V_get (0) fl_X7_65 dX7_count_53 hw.p0 rfl ?_
      refine V_iret dX7_count_56 rfl (by decide) (by decide) ?_
      exact fin2 (by rw [dCount, if_pos (show nI 0 = 0 by decide)]; try rfl) hw
    · refine V_tableIn 57 dX7_count_1 (by decide) (by decide) rfl (by decide) ?_
      refine V_aload_n dX7_count_57 rfl ?_
      refine V_get (0) fl_X7_26 dX7_count_58 hw.p0 rfl ?_
      refine V_getN (8) hE1 fn_X7_238 dX7_count_61 hw.p8 rfl ?_
      refine V_iret dX7_count_64 rfl (by decide) (by decide) ?_
      exact fin2 (by rw [dCount, if_neg (show ¬ nI 1 = 0 by decide), if_pos (show nI 1 = 1 by decide)]; try rfl) hw
    · refine V_tableIn 65 dX7_count_1 (by decide) (by decide) rfl (by decide) ?_
      refine V_aload_n dX7_count_65 rfl ?_
      refine V_get (0) fl_X7_33 dX7_count_66 hw.p0 rfl ?_
      refine V_getN (16) hE1 fn_X7_240 dX7_count_69 hw.p16 rfl ?_
      refine V_iret dX7_count_72 rfl (by decide) (by decide) ?_
      exact fin2 (by rw [dCount, if_neg (show ¬ nI 2 = 0 by decide), if_neg (show ¬ nI 2 = 1 by decide), if_pos (show nI 2 = 2 by decide)]; try rfl) hw
    · refine V_tableIn 73 dX7_count_1 (by decide) (by decide) rfl (by decide) ?_
      refine V_aload_n dX7_count_73 rfl ?_
      refine V_get (0) fl_X7_61 dX7_count_74 hw.p0 rfl ?_
      refine V_rdV (24) mw_Jx4a65c_size_8abf5 mv_X7_160 dX7_count_77 (ct_size hw) hw.p24 rfl rfl rfl (Nat.le_of_ble_eq_true rfl) (by first | decide | omega) (by decide) (by decide) (by decide) ?_
      refine V_iret dX7_count_80 rfl (by decide) (by decide) ?_
      exact fin2 (by rw [dCount, if_neg (show ¬ nI 3 = 0 by decide), if_neg (show ¬ nI 3 = 1 by decide), if_neg (show ¬ nI 3 = 2 by decide), if_pos (show nI 3 = 3 by decide)]; try rfl) hw
    · refine V_tableIn 81 dX7_count_1 (by decide) (by decide) rfl (by decide) ?_
      refine V_aload_n dX7_count_81 rfl ?_
      refine V_rdV (0) mw_X7_trainsOut mv_X7_241 dX7_count_82 (ct_X7_trainsOut hE hw hd hn hn60) hw.p0 rfl rfl rfl (Nat.le_of_ble_eq_true rfl) (by first | decide | omega) (by decide) (by decide) (by decide) ?_
      refine V_iret dX7_count_85 rfl (by decide) (by decide) ?_
      exact fin2 (by rw [dCount, if_neg (show ¬ nI 4 = 0 by decide), if_neg (show ¬ nI 4 = 1 by decide), if_neg (show ¬ nI 4 = 2 by decide), if_neg (show ¬ nI 4 = 3 by decide), if_pos (show nI 4 = 4 by decide)]; try rfl) hw
    · refine V_tableIn 86 dX7_count_1 (by decide) (by decide) rfl (by decide) ?_
      refine V_aload_n dX7_count_86 rfl ?_
      refine V_get (0) fl_X7_16 dX7_count_87 hw.p0 rfl ?_
      refine V_rdV (2) mw_X2_mask mv_X7_114 dX7_count_90 (ct_X2_mask hw (Or.inl rfl)) hw.p2 rfl rfl rfl (Nat.le_of_ble_eq_true rfl) (by first | decide | omega) (by decide) (by decide) (by decide) ?_
      refine V_rdS mw_J6_bitCount_0f7a4 ms_X7_244 dX7_count_93 (ct_bitCount (maskN_lt (g 3) 10)) rfl rfl (Nat.le_of_ble_eq_true rfl) (by first | decide | omega) (by decide) (by decide) (by decide) ?_
      refine V_iret dX7_count_96 rfl (by decide) (by decide) ?_
      exact fin2 (by rw [dCount, if_neg (show ¬ nI 5 = 0 by decide), if_neg (show ¬ nI 5 = 1 by decide), if_neg (show ¬ nI 5 = 2 by decide), if_neg (show ¬ nI 5 = 3 by decide), if_neg (show ¬ nI 5 = 4 by decide), if_pos (show nI 5 = 5 by decide)]; try rfl) hw
    · refine V_tableIn 97 dX7_count_1 (by decide) (by decide) rfl (by decide) ?_
      refine V_aload_n dX7_count_97 rfl ?_
      refine V_get (0) fl_X7_54 dX7_count_98 hw.p0 rfl ?_
      refine V_getN (21) hE1 fn_X7_249 dX7_count_101 hw.p21 rfl ?_
      refine V_iret dX7_count_104 rfl (by decide) (by decide) ?_
      exact fin2 (by rw [dCount, if_neg (show ¬ nI 6 = 0 by decide), if_neg (show ¬ nI 6 = 1 by decide), if_neg (show ¬ nI 6 = 2 by decide), if_neg (show ¬ nI 6 = 3 by decide), if_neg (show ¬ nI 6 = 4 by decide), if_neg (show ¬ nI 6 = 5 by decide), if_pos (show nI 6 = 6 by decide)]; try rfl) hw
    · refine V_tableIn 105 dX7_count_1 (by decide) (by decide) rfl (by decide) ?_
      refine V_aload_n dX7_count_105 rfl ?_
      refine V_rdV (0) mw_X7_isCutAtHand mv_X7_72 dX7_count_106 (ct_X7_isCutAtHand hw) hw.p0 rfl rfl rfl (Nat.le_of_ble_eq_true rfl) (by first | decide | omega) (by decide) (by decide) (by decide) ?_
      refine V_if_eq 116 dX7_count_109 (by decide) (fun h109 => ?_) (fun h109 => ?_)
      · skip
        refine V_iconst (v := 0) dX7_count_116 (by decide) ?_
        refine V_iret dX7_count_117 rfl (by decide) (by decide) ?_
        exact fin2 (by rw [dCount, if_neg (show ¬ nI 7 = 0 by decide), if_neg (show ¬ nI 7 = 1 by decide), if_neg (show ¬ nI 7 = 2 by decide), if_neg (show ¬ nI 7 = 3 by decide), if_neg (show ¬ nI 7 = 4 by decide), if_neg (show ¬ nI 7 = 5 by decide), if_neg (show ¬ nI 7 = 6 by decide), if_pos (show nI 7 = 7 by decide), if_neg (nb (bI_0 h109))]; try rfl) hw
      · skip
        refine V_iconst (v := 1) dX7_count_112 (by decide) ?_
        refine V_goto 117 dX7_count_113 (by decide) ?_
        refine V_iret dX7_count_117 rfl (by decide) (by decide) ?_
        exact fin2 (by rw [dCount, if_neg (show ¬ nI 7 = 0 by decide), if_neg (show ¬ nI 7 = 1 by decide), if_neg (show ¬ nI 7 = 2 by decide), if_neg (show ¬ nI 7 = 3 by decide), if_neg (show ¬ nI 7 = 4 by decide), if_neg (show ¬ nI 7 = 5 by decide), if_neg (show ¬ nI 7 = 6 by decide), if_pos (show nI 7 = 7 by decide), if_pos (bI_1 h109)]; try rfl) hw
    · refine V_tableIn 118 dX7_count_1 (by decide) (by decide) rfl (by decide) ?_
      refine V_aload_n dX7_count_118 rfl ?_
      refine V_iconst (v := 0) dX7_count_119 (by decide) ?_
      refine V_callV (0) mw_X7_firstBroken mv_X7_118 dX7_count_120 (ct_X7_firstBroken hw.1 hN hN30 hok 0) hw.p0 rfl rfl rfl (Nat.le_of_ble_eq_true rfl) (by first | decide | omega) (by decide) (by decide) (by decide) (fun r120 ws1 hp120 => ?_)
      obtain ⟨rfl, hw1⟩ := hp120
      have hw1 := hw.trans hw1
      refine V_iconst (v := -1) dX7_count_123 (by decide) ?_
      refine V_icmp_ne 131 dX7_count_124 (by decide) (fun h124 => ?_) (fun h124 => ?_)
      · skip
        refine V_iconst (v := 0) dX7_count_131 (by decide) ?_
        refine V_iret dX7_count_132 rfl (by decide) (by decide) ?_
        exact fin2 (by rw [dCount, if_neg (show ¬ nI 8 = 0 by decide), if_neg (show ¬ nI 8 = 1 by decide), if_neg (show ¬ nI 8 = 2 by decide), if_neg (show ¬ nI 8 = 3 by decide), if_neg (show ¬ nI 8 = 4 by decide), if_neg (show ¬ nI 8 = 5 by decide), if_neg (show ¬ nI 8 = 6 by decide), if_neg (show ¬ nI 8 = 7 by decide), if_pos (show nI 8 = 8 by decide), if_neg h124]; try rfl) hw1
      · skip
        refine V_iconst (v := 1) dX7_count_127 (by decide) ?_
        refine V_goto 132 dX7_count_128 (by decide) ?_
        refine V_iret dX7_count_132 rfl (by decide) (by decide) ?_
        exact fin2 (by rw [dCount, if_neg (show ¬ nI 8 = 0 by decide), if_neg (show ¬ nI 8 = 1 by decide), if_neg (show ¬ nI 8 = 2 by decide), if_neg (show ¬ nI 8 = 3 by decide), if_neg (show ¬ nI 8 = 4 by decide), if_neg (show ¬ nI 8 = 5 by decide), if_neg (show ¬ nI 8 = 6 by decide), if_neg (show ¬ nI 8 = 7 by decide), if_pos (show nI 8 = 8 by decide), if_pos h124]; try rfl) hw1
end TRN
