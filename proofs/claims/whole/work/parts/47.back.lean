/-! ===== the desk: back ===== -/
theorem no_io {w : va_W} {j a b : Nat} {x : ClassId × vp_A} {y : Nat × List Value} (h1 : w[j]? = some (a, .inl x)) (h2 : w[j]? = some (b, .inr y)) : False := by
  rw [h1] at h2
  injection h2 with h2
  injection h2 with _ h2
  cases h2
/-- objects of a train apart, what lies behind the fixed places stays -/
def KB (ws w : va_W) : Prop := ∀ j, 46 ≤ j → j < ws.length → (∀ a fs, ws[j]? ≠ some (a, .inr (6, fs))) → w[j]? = ws[j]?
def ldN (r : TR) : Nat := r.2.2.2.1.toNatClampNeg
def TOK (n : Nat) (T : Nat → TR) : Prop := ∀ t, t < n → (T t).1 ≤ 10 ∧ ldN (T t) < 1024 ∧ (T t).2.2.2.1 = nI (ldN (T t))
def bkS (T : Nat → TR) (t : Nat) : Nat → TR := fun u => if u = t then ((T t).1, (T t).2.1, (T t).2.2.1, (T t).2.2.2.1, 1) else T u
theorem lastI_ex {f : Nat → Int32} : ∀ {n : Nat}, ¬ lastI f n = -1 → ∃ t, t < n ∧ lastI f n = nI t ∧ f t = 0
  | 0, h => absurd rfl h
  | n + 1, h => by
    by_cases q : f n = 0
    · exact ⟨n, Nat.lt_succ_self n, by rw [lastI, if_pos q], q⟩
    · rw [lastI, if_neg q] at h ⊢
      obtain ⟨t, h1, h2, h3⟩ := lastI_ex h
      exact ⟨t, Nat.lt_succ_of_lt h1, h2, h3⟩
theorem DY0.back {E : VE} {el tE n : Nat} {T : Nat → TR} {w : va_W} {tb xas xos xbs : Nat → Nat} {qe cap : Nat} {fe : Nat → Option Nat} (hd : DY0 E el tE n T w tb xas xos xbs qe cap fe) {t : Nat} (ht : t < n) : DY0 E el tE n (bkS T t) (w.set (tb t + 1) (xos t, .inr (6, [.ref (xas t), .ref (xbs t), .int (T t).2.2.2.1, .int 1]))) tb xas xos xbs qe cap fe := by
  obtain ⟨h1, h2, h3⟩ := hd
  obtain ⟨t0, t1, t2, t3⟩ := h1 t ht
  refine ⟨fun u hu => ?_, h2, ?_⟩
  · obtain ⟨u0, u1, u2, u3⟩ := h1 u hu
    have e1 : tb t + 1 ≠ tb u := fun z => no_io u1 (z ▸ t2)
    have e3 : tb t + 1 ≠ tb u + 2 := fun z => no_io u3 (z ▸ t2)
    by_cases e : u = t
    · subst e
      rw [show bkS T u u = ((T u).1, (T u).2.1, (T u).2.2.1, (T u).2.2.2.1, 1) from if_pos rfl]
      exact ⟨u0, by rw [List.getElem?_set_ne e1]; exact u1, by rw [List.getElem?_set_self (List.getElem?_eq_some_iff.mp t2).1], by rw [List.getElem?_set_ne e3]; exact u3⟩
    · rw [show bkS T t u = T u from if_neg e]
      have e2 : tb t + 1 ≠ tb u + 1 := fun z => e (h2 u t hu ht (by omega))
      exact ⟨u0, by rw [List.getElem?_set_ne e1]; exact u1, by rw [List.getElem?_set_ne e2]; exact u2, by rw [List.getElem?_set_ne e3]; exact u3⟩
  · rcases h3 with z | ⟨z1, z2, z3, z4⟩
    · exact Or.inl z
    · exact Or.inr ⟨z1, z2, by rw [List.getElem?_set_ne (fun z => no_io z3 (z ▸ t2))]; exact z3, z4⟩
theorem DY0.to {E : VE} {el tE n : Nat} {T : Nat → TR} {ws w : va_W} {tb xas xos xbs : Nat → Nat} {qe cap : Nat} {fe : Nat → Option Nat} (hd : DY0 E el tE n T ws tb xas xos xbs qe cap fe) (hf : Fr ws w) : DY0 E el tE n T w tb xas xos xbs qe cap fe := by
  obtain ⟨h1, h2, h3⟩ := hd
  refine ⟨fun t ht => (h1 t ht).to (fun j hj _ => hf.2 j hj), h2, ?_⟩
  rcases h3 with z | ⟨z1, z2, z3, z4⟩
  · exact Or.inl z
  · exact Or.inr ⟨z1, z2, by rw [hf.2 qe z2]; exact z3, z4⟩
def dBk1 (g : Nat → Nat → Int32) (r : TR) : Nat → Nat → Int32 := va_up g 1 (brF (g 1) r.2.1 (ldN r) r.1)
def dBk2 (g : Nat → Nat → Int32) (r : TR) : Nat → Nat → Int32 := va_up g 1 (brF (g 1) r.2.2.1 (ldN r) r.1)
def dBackT (g : Nat → Nat → Int32) (T : Nat → TR) (nP nN nW t : Nat) : Int32 × (Nat → Nat → Int32) × (Nat → TR) := if fi (pStk g nW (ldN (T t))) nP 0 = -1 then (if brkD (wTo (dBk1 g (T t)) nN) nN 0 = -1 then (nI t, drpG (wTo (dBk1 g (T t)) nN) nP, bkS T t) else (-1, dBk2 (wTo (dBk1 g (T t)) nN) (T t), T)) else (-1, g, T)
def dBack (g : Nat → Nat → Int32) (T : Nat → TR) (n nP nN nW : Nat) : Int32 × (Nat → Nat → Int32) × (Nat → TR) := if cutB g = true then (-1, g, T) else if lastI (bk T) n = -1 then (-1, g, T) else dBackT g T nP nN nW (lastI (bk T) n).toNatClampNeg
section BCK
variable {E : VE} {ad : Nat → Nat} {el : Nat} {g : Nat → Nat → Int32} {w0 ws : va_W} {tE mi : Nat}
theorem bk_end {b : Int32 × (Nat → Nat → Int32) × (Nat → TR)} {v : Int32} {g1 : Nat → Nat → Int32} {n : Nat} {T : Nat → TR} {w : va_W} (e : b = (v, g1, T)) (hw : WF E ad el g1 ws w) (hd : DY E el tE n T ws) : some (.int v) = some (Value.int b.1) ∧ Wd E ad el b.2.1 w ∧ DY E el tE n b.2.2 w ∧ KB ws w := by
  subst e
  exact ⟨rfl, hw.1, hd.fr hw.2, fun j hj _ _ => hw.2.2 j hj⟩
set_option maxHeartbeats 4000000 in
set_option maxRecDepth 20000 in
theorem ct_X7_back (hE : GH E tE mi) (hw : Wd E ad el g ws) {n : Nat} {T : Nat → TR} {tb xa xo xb : Nat → Nat} {qe cap : Nat} {fe : Nat → Option Nat} (hd : DY0 E el tE n T ws tb xa xo xb qe cap fe) (hn : g 24 2 = nI n) (hn60 : n ≤ 60) (hTk : TOK n T) {nP : Nat} (hP : g 0 9 = nI nP) (hP10 : nP ≤ 10) {nN : Nat} (hN : g 8 7 = nI nN) (hN30 : nN ≤ 30) (hok : NOK g nN) {nW : Nat} (hW : g 21 2 = nI nW) (hW60 : nW ≤ 60) : Ct E yX7_back cX7_back 3 (some (.int)) 6 0 0 [.ref (ad 0)] ws (fun r w => r = some (.int (dBack g T n nP nN nW).1) ∧ Wd E ad el (dBack g T n nP nN nW).2.1 w ∧ DY E el tE n (dBack g T n nP nN nW).2.2 w ∧ KB ws w) := by
  refine Ct_of mw_X7_back rfl (Nat.le_of_ble_eq_true rfl) ?_
  have hE1 := hE.1
  have hw := WF.rf hw
  refine V_aload_n dX7_back_0 rfl ?_
  refine V_rdV (0) mw_X7_latestOut mv_X7_186 dX7_back_1 (ct_X7_latestOut hE hw hd hn hn60) hw.p0 rfl rfl rfl (Nat.le_of_ble_eq_true rfl) (by first | decide | omega) (by decide) (by decide) (by decide) ?_
  refine V_istore_n dX7_back_4 (by decide) ?_
  refine V_aload_n dX7_back_5 rfl ?_
  refine V_rdV (0) mw_X7_isCutAtHand mv_X7_72 dX7_back_6 (ct_X7_isCutAtHand hw) hw.p0 rfl rfl rfl (Nat.le_of_ble_eq_true rfl) (by first | decide | omega) (by decide) (by decide) (by decide) ?_
  refine V_if_ne 17 dX7_back_9 (by decide) (fun h9 => ?_) (fun h9 => ?_)
  · skip
    refine V_iconst (v := -1) dX7_back_17 (by decide) ?_
    refine V_iret dX7_back_18 rfl (by decide) (by decide) ?_
    exact bk_end (by rw [dBack, if_pos (bI_1 h9)]) hw ⟨_, _, _, _, _, _, _, hd⟩
  · skip
    refine V_iload_n dX7_back_12 rfl ?_
    refine V_iconst (v := -1) dX7_back_13 (by decide) ?_
    refine V_icmp_ne 19 dX7_back_14 (by decide) (fun h14 => ?_) (fun h14 => ?_)
    · skip
      obtain ⟨t, ht, hlt, hb0⟩ := lastI_ex h14
      have hS := hTk t ht
      have hdB : dBack g T n nP nN nW = dBackT g T nP nN nW t := by
        have hn1 := hn60
        rw [dBack, if_neg (nb (bI_0 h9)), if_neg h14, hlt, nI_clamp (by omega)]
      rw [hlt]
      refine V_aload_n dX7_back_19 rfl ?_
      refine V_get (0) fl_X7_61 dX7_back_20 hw.p0 rfl ?_
      refine V_iload_n dX7_back_23 rfl ?_
      refine V_callV (24) mw_Jx4a65c_get_915e3 mv_X7_189 dX7_back_24 (ct_getT hE hw hd hn hn60 ht) hw.p24 rfl rfl rfl (Nat.le_of_ble_eq_true rfl) (by first | decide | omega) (by decide) (by decide) (by decide) (fun r24 ws1 hp24 => ?_)
      obtain ⟨rfl, hq1⟩ := hp24
      rw [hq1]
      have hw1 := hw
      refine V_castT (tb t + 1) wd_cl_X7_169 dX7_back_27 (hd.1 t ht).2.2.1 ?_
      refine V_astore_n dX7_back_30 (by decide) ?_
      refine V_aload_n dX7_back_31 rfl ?_
      refine V_aload_n dX7_back_32 rfl ?_
      refine V_getN (tb t + 1) hE1 fn_X7_193 dX7_back_33 ((hd.to hw1.2).1 t ht).2.2.1 rfl ?_
      rw [hS.2.2]
      refine V_rdV (0) mw_X7_isStuck mv_X7_196 dX7_back_36 (ct_X7_isStuck hw1 hP hP10 hW hW60 hS.2.1) hw1.p0 rfl rfl rfl (Nat.le_of_ble_eq_true rfl) (by first | decide | omega) (by decide) (by decide) (by decide) ?_
      refine V_if_eq 44 dX7_back_39 (by decide) (fun h39 => ?_) (fun h39 => ?_)
      · skip
        have hs : fi (pStk g nW (ldN (T t))) nP 0 = -1 := by
          have := bI_0 h39
          simpa using this
        refine V_aload_n dX7_back_44 rfl ?_
        refine V_aload_n dX7_back_45 rfl ?_
        refine V_getN (tb t + 1) hE1 fn_X7_199 dX7_back_46 ((hd.to hw1.2).1 t ht).2.2.1 rfl ?_
        refine V_aload_n dX7_back_49 rfl ?_
        refine V_getN (tb t + 1) hE1 fn_X7_193 dX7_back_50 ((hd.to hw1.2).1 t ht).2.2.1 rfl ?_
        rw [hS.2.2]
        refine V_callV (0) mw_X7_bringHome mv_X7_202 dX7_back_53 (ct_X7_bringHome (q := tb t) hw1.1 (hd.1 t ht).1 hS.1 hS.2.1 ((hd.to hw1.2).1 t ht).2.1) hw1.p0 rfl rfl rfl (Nat.le_of_ble_eq_true rfl) (by first | decide | omega) (by decide) (by decide) (by decide) (fun r53 ws2 hp53 => ?_)
        obtain ⟨rfl, hw2⟩ := hp53
        have hw2 := hw1.trans hw2
        have hw2 : WF E ad el (dBk1 g (T t)) ws ws2 := hw2
        refine V_aload_n dX7_back_56 rfl ?_
        refine V_iconst (v := 0) dX7_back_57 (by decide) ?_
        refine V_callV (0) mw_X7_firstBroken mv_X7_118 dX7_back_58 (ct_X7_firstBroken (g := dBk1 g (T t)) hw2.1 hN hN30 hok 0) hw2.p0 rfl rfl rfl (Nat.le_of_ble_eq_true rfl) (by first | decide | omega) (by decide) (by decide) (by decide) (fun r58 ws3 hp58 => ?_)
        obtain ⟨rfl, hw3⟩ := hp58
        have hw3 := hw2.trans hw3
        refine V_iconst (v := -1) dX7_back_61 (by decide) ?_
        refine V_icmp_eq 79 dX7_back_62 (by decide) (fun h62 => ?_) (fun h62 => ?_)
        · skip
          refine V_aload_n dX7_back_79 rfl ?_
          refine V_iconst (v := 1) dX7_back_80 (by decide) ?_
          refine V_putN (tb t + 1) hE1 fnp_X7_209 dX7_back_81 ((hd.to hw3.2).1 t ht).2.2.1 rfl rfl (Nat.le_of_ble_eq_true rfl) ?_
          obtain ⟨ws4, ews⟩ : ∃ w : va_W, w = ws3.set (tb t + 1) (xo t, .inr (6, [.ref (xa t), .ref (xb t), .int (T t).2.2.2.1, .int 1])) := ⟨_, rfl⟩
          have hw4 : WF E ad el (wTo (dBk1 g (T t)) nN) ws4 ws4 := WF.rf (by
            intro k hk
            rw [ews, List.getElem?_set_ne (by have := (hd.1 t ht).1; omega)]
            exact hw3.1 k hk)
          have hdN := (hd.to hw3.2).back ht
          have hwo := hw3
          show V E _ _ _ _ _ _ _ _ _ _ _ (ws3.set (tb t + 1) (xo t, .inr (6, [.ref (xa t), .ref (xb t), .int (T t).2.2.2.1, .int 1]))) _ _
          rw [← ews]
          rw [← ews] at hdN
          refine V_aload_n dX7_back_84 rfl ?_
          refine V_callV (0) mw_X7_dropOffersAtHome mv_X7_213 dX7_back_85 (ct_X7_dropOffersAtHome (g := wTo (dBk1 g (T t)) nN) hw4.1 hP hP10) hw4.p0 rfl rfl rfl (Nat.le_of_ble_eq_true rfl) (by first | decide | omega) (by decide) (by decide) (by decide) (fun r85 ws5 hp85 => ?_)
          obtain ⟨rfl, hw5⟩ := hp85
          have hw5 := hw4.trans hw5
          refine V_iload_n dX7_back_88 rfl ?_
          refine V_iret dX7_back_89 rfl (by decide) (by decide) ?_
          rw [hdB, dBackT, if_pos hs, if_pos h62]
          refine ⟨rfl, hw5.1, ⟨_, _, _, _, _, _, _, hdN.to hw5.2⟩, fun j h1 h2 h3 => ?_⟩
          rw [hw5.2.2 j h1, ews, List.getElem?_set_ne (fun z => h3 _ _ (z ▸ (hd.1 t ht).2.2.1)), hwo.2.2 j h1]
        · skip
          refine V_aload_n dX7_back_65 rfl ?_
          refine V_aload_n dX7_back_66 rfl ?_
          refine V_getN (tb t + 1) hE1 fn_X7_206 dX7_back_67 ((hd.to hw3.2).1 t ht).2.2.1 rfl ?_
          refine V_aload_n dX7_back_70 rfl ?_
          refine V_getN (tb t + 1) hE1 fn_X7_193 dX7_back_71 ((hd.to hw3.2).1 t ht).2.2.1 rfl ?_
          rw [hS.2.2]
          refine V_callV (0) mw_X7_bringHome mv_X7_202 dX7_back_74 (ct_X7_bringHome (q := tb t + 2) hw3.1 (by have := (hd.1 t ht).1; omega) hS.1 hS.2.1 ((hd.to hw3.2).1 t ht).2.2.2) hw3.p0 rfl rfl rfl (Nat.le_of_ble_eq_true rfl) (by first | decide | omega) (by decide) (by decide) (by decide) (fun r74 ws4 hp74 => ?_)
          obtain ⟨rfl, hw4⟩ := hp74
          have hw4 := hw3.trans hw4
          refine V_iconst (v := -1) dX7_back_77 (by decide) ?_
          refine V_iret dX7_back_78 rfl (by decide) (by decide) ?_
          exact bk_end (by rw [hdB, dBackT, if_pos hs, if_neg h62]; rfl) hw4 ⟨_, _, _, _, _, _, _, hd⟩
      · skip
        have hs : ¬ fi (pStk g nW (ldN (T t))) nP 0 = -1 := by
          have := bI_1 h39
          simpa using this
        refine V_iconst (v := -1) dX7_back_42 (by decide) ?_
        refine V_iret dX7_back_43 rfl (by decide) (by decide) ?_
        exact bk_end (by rw [hdB, dBackT, if_neg hs]) hw1 ⟨_, _, _, _, _, _, _, hd⟩
    · skip
      refine V_iconst (v := -1) dX7_back_17 (by decide) ?_
      refine V_iret dX7_back_18 rfl (by decide) (by decide) ?_
      exact bk_end (by rw [dBack, if_neg (nb (bI_0 h9)), if_pos h14]) hw ⟨_, _, _, _, _, _, _, hd⟩
end BCK
