/-! ===== the desk: send ===== -/
def alG (g : Nat → Nat → Int32) : Nat → Nat → Int32 := va_up (va_up g 24 (upd (g 24) 0 (g 24 0 + 1))) 24 (upd (upd (g 24) 0 (g 24 0 + 1)) 2 (g 24 2 + 1))
/-- rows of references apart, what lies behind the fixed places stays -/
def KP (E : VE) (ws w : va_W) : Prop := ∀ j, 46 ≤ j → j < ws.length → (∀ a c f, ws[j]? ≠ some (a, rO E c f)) → w[j]? = ws[j]?
theorem TrAt.to2 {E : VE} {ws w : va_W} {b xa xo xb : Nat} {r : TR} (h : TrAt E ws b xa xo xb r) (hf : KP E ws w) : TrAt E w b xa xo xb r := by
  obtain ⟨h0, h1, h2, h3⟩ := h
  refine ⟨h0, ?_, ?_, ?_⟩
  · rw [hf b h0 (List.getElem?_eq_some_iff.mp h1).1 (fun a c f z => by rw [h1] at z; injection z with z; injection z with _ z; injection z with z; injection z with _ z; injection z with _ z; cases z)]; exact h1
  · rw [hf _ (by omega) (List.getElem?_eq_some_iff.mp h2).1 (fun a c f z => by rw [h2] at z; cases z)]; exact h2
  · rw [hf _ (by omega) (List.getElem?_eq_some_iff.mp h3).1 (fun a c f z => by rw [h3] at z; injection z with z; injection z with _ z; injection z with z; injection z with _ z; injection z with _ z; cases z)]; exact h3
section SND
variable {E : VE} {ad : Nat → Nat} {el : Nat} {g : Nat → Nat → Int32} {w0 ws : va_W} {tE mi : Nat}
theorem add_dy {n x b xa xb : Nat} {T : Nat → TR} {r : TR} {tb xas xos xbs : Nat → Nat} {qe : Nat} {fe : Nat → Option Nat} {w1 w : va_W} (hq : AddQ E ad (va_up g 24 (upd (g 24) 0 (g 24 0 + 1))) n x qe fe w1 w) (h46 : ∀ j, 46 ≤ j → w1[j]? = ws[j]?) (hl : w1.length = ws.length) (hqe : (∃ a c f, ws[qe]? = some (a, rO E c f)) ∨ ws.length ≤ qe)
    (h1 : ∀ t, t < n → TrAt E ws (tb t) (xas t) (xos t) (xbs t) (T t)) (h2 : ∀ t u, t < n → u < n → tb t = tb u → t = u) (hfe : ∀ t, t < n → fe t = some (xos t)) (hnew : TrAt E ws b xa x xb r) (hb : ∀ t, t < n → tb t ≠ b) : ∃ el2, Wd E ad el2 (alG g) w ∧ DY E el2 tE (n + 1) (fun t => if t < n then T t else r) w ∧ KP E ws w := by
  obtain ⟨el2, q2, cap2, fe2, a1, a2, a3, a4, a5, a6, a7, a8, a9, a10⟩ := hq
  have hkp : KP E ws w := by
    intro j hj1 hj2 hj3
    rw [a9 j hj1 (by omega) (fun z => ?_), h46 j hj1]
    subst z
    rcases hqe with ⟨a, c, f, z⟩ | z
    · exact hj3 a c f z
    · omega
  refine ⟨el2, a1, ⟨fun t => if t < n then tb t else b, fun t => if t < n then xas t else xa, fun t => if t < n then xos t else x, fun t => if t < n then xbs t else xb, q2, cap2, fe2, ?_, ?_, ?_⟩, hkp⟩
  · intro t ht
    by_cases q : t < n
    · simp only [if_pos q]; exact (h1 t q).to2 hkp
    · simp only [if_neg q]; exact hnew.to2 hkp
  · intro t u ht hu
    by_cases q1 : t < n <;> by_cases q2 : u < n <;> simp only [q1, q2, if_true, if_false, if_pos, if_neg, not_false_eq_true]
    · exact h2 t u q1 q2
    · intro z; exact absurd z (hb t q1)
    · intro z; exact absurd z.symm (hb u q2)
    · intro _; omega
  · refine Or.inr ⟨by omega, a2, a3, a4, a5, fun t ht => ?_, fun i hi => a8 i (by omega)⟩
    show fe2 t = some (if t < n then xos t else x)
    by_cases q : t < n
    · rw [a7 t q, if_pos q]; exact hfe t q
    · rw [if_neg q, show t = n by omega]; exact a6
set_option maxHeartbeats 4000000 in
set_option maxRecDepth 20000 in
theorem ct_addT (hE : GH E tE mi) (hw : Wd E ad el g ws) {n : Nat} {T : Nat → TR} {tb xas xos xbs : Nat → Nat} {qe cap : Nat} {fe : Nat → Option Nat} (hd : DY0 E el tE n T ws tb xas xos xbs qe cap fe) (hn : g 24 2 = nI n) (hn60 : n < 60) {b xa x xb : Nat} {r : TR} (hnew : TrAt E ws b xa x xb r) (hb : ∀ t, t < n → tb t ≠ b) : Ct E yJx4a65c_add_9ea2d cJx4a65c_add_9ea2d 2 (some (.boolean)) 6 1 100 [.ref (ad 24), .ref x] ws (fun r9 w => r9 = some (.int 1) ∧ ∃ el2, Wd E ad el2 (alG g) w ∧ DY E el2 tE (n + 1) (fun t => if t < n then T t else r) w ∧ KP E ws w) := by
  obtain ⟨h1, h2, h3⟩ := hd
  have hw1 : Wd E ad el (va_up g 24 (upd (g 24) 0 (g 24 0 + 1))) (ws.set 24 (ad 24, cellOf E ad el 24 (upd (g 24) 0 (g 24 0 + 1)))) := hw.set (k := 24) (r := upd (g 24) 0 (g 24 0 + 1)) (by decide) rfl
  have h46 : ∀ j, 46 ≤ j → (ws.set 24 (ad 24, cellOf E ad el 24 (upd (g 24) 0 (g 24 0 + 1))))[j]? = ws[j]? := fun j hj => by rw [List.getElem?_set_ne (by omega)]
  have hl : (ws.set 24 (ad 24, cellOf E ad el 24 (upd (g 24) 0 (g 24 0 + 1)))).length = ws.length := List.length_set
  have hx1 : (ws.set 24 (ad 24, cellOf E ad el 24 (upd (g 24) 0 (g 24 0 + 1))))[b + 1]? = some (x, .inr (6, [.ref xa, .ref xb, .int r.2.2.2.1, .int r.2.2.2.2])) := by rw [h46 _ (by have := hnew.1; omega)]; exact hnew.2.2.1
  refine ct_add hw ?_
  rw [hn]
  rcases h3 with ⟨z1, z2⟩ | ⟨z1, z2, z3, z4, z5, z6, z7⟩
  · subst z1 z2
    exact (ct_add3a (qe := ws.length) (fe := fe) hE hw1 hn hx1 (by have := hnew.1; omega)).mono (fun v w h => ⟨h.1, add_dy h.2 h46 hl (Or.inr (Nat.le_refl _)) h1 h2 (fun t ht => absurd ht (Nat.not_lt_zero _)) hnew hb⟩)
  · have he1 : (ws.set 24 (ad 24, cellOf E ad el 24 (upd (g 24) 0 (g 24 0 + 1))))[qe]? = some (el, rO E cap fe) := by rw [h46 _ z2]; exact z3
    by_cases q : n < cap
    · exact (ct_add3b hE hw1 hn hn60 z2 he1 q z5 z7 hx1 (by have := hnew.1; omega)).mono (fun v w h => ⟨h.1, add_dy h.2 h46 hl (Or.inl ⟨_, _, _, z3⟩) h1 h2 z6 hnew hb⟩)
    · have e : cap = n := by omega
      subst e
      exact (ct_add3c hE hw1 hn z1 hn60 z2 he1 (fun i v hi hv => by
        rw [z6 i hi] at hv
        cases hv
        exact ⟨tb i + 1, _, by rw [h46 _ (by have := (h1 i hi).1; omega)]; exact (h1 i hi).2.2.1⟩) hx1 (by have := hnew.1; omega)).mono (fun v w h => ⟨h.1, add_dy h.2 h46 hl (Or.inl ⟨_, _, _, z3⟩) h1 h2 z6 hnew hb⟩)
/-- the chosen of the parts below p are at home -/
def snL (g : Nat → Nat → Int32) : Nat → Nat → Nat → Int32
  | 0 => g
  | p + 1 => if chB (snL g p) (nI p) = true then put10 (va_up (snL g p) 1 (upd (snL g p 1) p (at10 (snL g p 3) (nI p)))) 2 (nI p) (-1) (-1) else snL g p
theorem snL_k (g : Nat → Nat → Int32) (k : Nat) (h1 : k ≠ 1) (h3 : k ≠ 3) (h4 : k ≠ 4) : ∀ p, snL g p k = g k
  | 0 => rfl
  | p + 1 => by
    unfold snL
    split
    · rw [put10_low _ _ _ _ _ _ h3 h4, va_up_ne _ _ h1]; exact snL_k g k h1 h3 h4 p
    · exact snL_k g k h1 h3 h4 p
set_option maxHeartbeats 4000000 in
set_option maxRecDepth 20000 in
theorem sn_lp {nP : Nat} (hP : g 0 9 = nI nP) (hP10 : nP ≤ 10) {Po : Option Value → va_W → Prop} {z1 : Option Value} {cl sl : Nat} (hcl : cl ≤ 4) (hsl : sl ≤ 128) (K : ∀ (x : Int32) (ws : va_W), WF E ad el (snL g nP) w0 ws → V E yX7_send cX7_send 3 (some (.int)) 7 4 128 Po 89 [some (.ref (ad 0)), z1, some (.int x)] [] ws cl sl) : ∀ (k i : Nat) (x : Int32) (ws : va_W), i ≤ nP → nP < i + k → x = nI i → WF E ad el (snL g i) w0 ws → V E yX7_send cX7_send 3 (some (.int)) 7 4 128 Po 45 [some (.ref (ad 0)), z1, some (.int x)] [] ws cl sl := by
  intro k
  induction k with
  | zero => intro i x ws h1 h2; exact absurd h2 (by omega)
  | succ k ih =>
    intro i x ws hil hin hx hw
    subst hx
    refine V_iload_n dX7_send_45 rfl ?_
    refine V_aload_n dX7_send_46 rfl ?_
    refine V_get (0) fl_X7_65 dX7_send_47 hw.p0 rfl ?_
    refine V_icmp_ge 89 dX7_send_50 (by decide) (fun h50 => ?_) (fun h50 => ?_)
    · skip
      rw [show snL g i 0 = g 0 from snL_k g 0 (by decide) (by decide) (by decide) i, hP] at h50
      have hi : i = nP := by have := leK (a := nP) (b := i) (by omega) (by omega) h50; omega
      subst hi
      exact K _ _ hw
    · skip
      rw [show snL g i 0 = g 0 from snL_k g 0 (by decide) (by decide) (by decide) i, hP] at h50
      have hi := nleK (a := nP) (b := i) (by omega) (by omega) h50
      refine V_aload_n dX7_send_53 rfl ?_
      refine V_iload_n dX7_send_54 rfl ?_
      refine V_rdV (0) mw_X7_isChosen mv_X7_134 dX7_send_55 (ct_X7_isChosen hw (nI i)) hw.p0 rfl rfl rfl (Nat.le_of_ble_eq_true rfl) (by first | decide | omega) (by decide) hcl hsl ?_
      refine V_if_eq 83 dX7_send_58 (by decide) (fun h58 => ?_) (fun h58 => ?_)
      · skip
        refine V_iinc dX7_send_83 rfl rfl (by decide) ?_
        refine V_goto 45 dX7_send_86 (by decide) ?_
        exact ih (i + 1) _ _ (by omega) (by omega) (nI_1 i) (by rw [snL, if_neg (nb (bI_0 h58))]; exact hw)
      · skip
        refine V_aload_n dX7_send_61 rfl ?_
        refine V_get (0) fl_X7_9 dX7_send_62 hw.p0 rfl ?_
        refine V_iload_n dX7_send_65 rfl ?_
        refine V_aload_n dX7_send_66 rfl ?_
        refine V_get (0) fl_X7_16 dX7_send_67 hw.p0 rfl ?_
        refine V_iload_n dX7_send_70 rfl ?_
        refine V_rdV (2) mw_X2_versionOf mv_X7_141 dX7_send_71 (ct_X2_versionOf hw (Or.inl rfl) (nI i)) hw.p2 rfl rfl rfl (Nat.le_of_ble_eq_true rfl) (by first | decide | omega) (by decide) hcl hsl ?_
        refine W_iastN (1) hw (by decide) (fun _ => rfl) dX7_send_74 (by omega) (by first | decide | omega) (fun ws1 hw1 => ?_)
        refine V_aload_n dX7_send_75 rfl ?_
        refine V_get (0) fl_X7_16 dX7_send_76 hw1.p0 rfl ?_
        refine V_iload_n dX7_send_79 rfl ?_
        refine V_callV (2) mw_X2_drop mv_X7_101 dX7_send_80 (ct_X2_drop hw1.1 (Or.inl rfl) (nI i)) hw1.p2 rfl rfl rfl (Nat.le_of_ble_eq_true rfl) (by first | decide | omega) (by decide) hcl hsl (fun r80 ws2 hp80 => ?_)
        obtain ⟨rfl, hw2⟩ := hp80
        have hw2 := hw1.trans hw2
        refine V_iinc dX7_send_83 rfl rfl (by decide) ?_
        refine V_goto 45 dX7_send_86 (by decide) ?_
        exact ih (i + 1) _ _ (by omega) (by omega) (nI_1 i) (by rw [snL, if_pos (bI_1 h58)]; exact hw2)
def dSndG (g : Nat → Nat → Int32) (nP : Nat) : Nat → Nat → Int32 := endG (alG (snL g nP)) nP
/-- may it be sent -/
def dSndB (g : Nat → Nat → Int32) (n : Nat) : Bool := cutB g && (!decide (g 18 1 = -1) && decide (n < 60))
set_option maxHeartbeats 4000000 in
set_option maxRecDepth 20000 in
theorem sn_end (hE : GH E tE mi) (hw0 : Wd E ad el g ws) {n : Nat} {T : Nat → TR} {tb xas xos xbs : Nat → Nat} {qe cap : Nat} {fe : Nat → Option Nat} (hd : DY0 E el tE n T ws tb xas xos xbs qe cap fe) (hn : g 24 2 = nI n) (hn60 : n < 60) {nP : Nat} (hP : g 0 9 = nI nP) (hP10 : nP ≤ 10) (hb0 : dSndB g n = true) {xa : Nat} {ha : Nat → Int32} (hha : ∀ j, j < nP → ha j = g 1 j) {wsL : va_W} (hw : WF E ad el (snL g nP) (ws ++ [(xa, .inl (cI E, nP, .inl ha))]) wsL) (z : Int32) : V E yX7_send cX7_send 3 (some (.int)) 7 4 128 (fun r w => (dSndB g n = false ∧ r = some (.int (-1)) ∧ w = ws) ∨ (dSndB g n = true ∧ r = some (.int (nI n)) ∧ ∃ el2 ha hb, (∀ j, j < nP → ha j = g 1 j) ∧ (∀ j, j < nP → hb j = snL g nP 1 j) ∧ Wd E ad el2 (dSndG g nP) w ∧ DY E el2 tE (n + 1) (fun t => if t < n then T t else (nP, ha, hb, g 0 10, 0)) w ∧ KP E ws w)) 89 [some (.ref (ad 0)), some (.ref xa), some (.int z)] [] wsL 1 nP := by
  have hL : wsL.length = ws.length + 1 := by rw [hw.2.1, List.length_append]; rfl
  have g24 : snL g nP 24 = g 24 := snL_k g 24 (by decide) (by decide) (by decide) nP
  have g0 : snL g nP 0 = g 0 := snL_k g 0 (by decide) (by decide) (by decide) nP
  have hws := hw0.len
  refine V_aload_n dX7_send_89 rfl ?_
  refine V_get 0 fl_X7_61 dX7_send_90 hw.p0 rfl ?_
  refine V_new (ci := 6) (fs := [.null, .null, .int 0, .int 0]) (ty := tyX6) ui_X6 tyX6_ok wd_cl_X7_169 wd_in_X6 wd_ii_X6 rfl (fun j hj => by rcases (show j = 0 ∨ j = 1 ∨ j = 2 ∨ j = 3 by omega) with rfl | rfl | rfl | rfl <;> rfl) dX7_send_93 (by decide) (by omega) (fun xo => ?_)
  refine V_dup dX7_send_96 rfl ?_
  refine V_aload_n dX7_send_97 rfl ?_
  refine V_aload_n dX7_send_98 rfl ?_
  refine V_get 0 fl_X7_9 dX7_send_99 (app_lt hw.p0) rfl ?_
  refine V_aload_n dX7_send_102 rfl ?_
  refine V_get 0 fl_X7_65 dX7_send_103 (app_lt hw.p0) rfl ?_
  rw [g0, hP]
  refine V_callS mw_J7_copyOf_59c91 ms_X7_163 dX7_send_106 (ct_copyOf hE (q := 1) (app_lt hw.p1) (by decide) hP10) rfl rfl (Nat.le_of_ble_eq_true rfl) (by decide) (by decide) (by decide) (by omega) (fun r1 w1 hp1 => ?_)
  obtain ⟨xb, hb, rfl, rfl, hhb⟩ := hp1
  refine V_aload_n dX7_send_109 rfl ?_
  refine V_get 0 fl_X7_69 dX7_send_110 (app_lt (app_lt hw.p0)) rfl ?_
  rw [g0]
  refine V_callI mw_X6_init mi_X7_171 dX7_send_113 (ct_X6_init (q := wsL.length) xa xb (g 0 10) (app_lt app_at)) rfl rfl (Nat.le_of_ble_eq_true rfl) (by decide) (by decide) (by decide) (by omega) (fun r2 w2 hp2 => ?_)
  obtain ⟨rfl, rfl⟩ := hp2
  obtain ⟨w3, ew3⟩ : ∃ w3 : va_W, w3 = ((wsL ++ [(xo, (.inr (6, [.null, .null, .int 0, .int 0]) : va_E))]) ++ [(xb, (.inl (cI E, nP, .inl hb) : va_E))]).set wsL.length (xo, .inr (6, [.ref xa, .ref xb, .int (g 0 10), .int 0])) := ⟨_, rfl⟩
  rw [← ew3]
  have ew4 : w3 = (wsL ++ [(xo, .inr (6, [.ref xa, .ref xb, .int (g 0 10), .int 0]))]) ++ [(xb, .inl (cI E, nP, .inl hb))] := by rw [ew3, List.set_append_left _ _ (by rw [List.length_append]; exact Nat.lt_succ_self _), app_set]
  have hw3 : Wd E ad el (snL g nP) w3 := by rw [ew4]; exact hw.1.app.app
  have hlt : ∀ j, 46 ≤ j → j < ws.length → w3[j]? = ws[j]? := by
    intro j h1 h2
    rw [ew4, List.getElem?_append_left (by rw [List.length_append]; show j < wsL.length + 1; omega), List.getElem?_append_left (by omega), hw.2.2 j h1, List.getElem?_append_left h2]
  have hA : w3[ws.length]? = some (xa, .inl (cI E, nP, .inl ha)) := by
    rw [ew4, List.getElem?_append_left (by rw [List.length_append]; show ws.length < wsL.length + 1; omega), List.getElem?_append_left (by omega), hw.2.2 _ (by omega)]
    exact app_at
  have hO : w3[ws.length + 1]? = some (xo, .inr (6, [.ref xa, .ref xb, .int (g 0 10), .int 0])) := by
    rw [ew4, ← hL]
    exact app_lt app_at
  have hB : w3[ws.length + 2]? = some (xb, .inl (cI E, nP, .inl hb)) := by
    have : ws.length + 2 = (wsL ++ [(xo, (.inr (6, [.ref xa, .ref xb, .int (g 0 10), .int 0]) : va_E))]).length := by rw [List.length_append]; show _ = wsL.length + 1; omega
    rw [ew4, this]
    exact app_at
  have hnew : TrAt E w3 ws.length xa xo xb (nP, ha, hb, g 0 10, 0) := ⟨hws, hA, hO, hB⟩
  have hd3 : DY0 E el tE n T w3 tb xas xos xbs qe cap fe := by
    obtain ⟨h1, h2, h3⟩ := hd
    refine ⟨fun t ht => (h1 t ht).to hlt, h2, ?_⟩
    rcases h3 with z | ⟨z1, z2, z3, z4⟩
    · exact Or.inl z
    · exact Or.inr ⟨z1, z2, by rw [hlt qe z2 (List.getElem?_eq_some_iff.mp z3).1]; exact z3, z4⟩
  refine V_callV 24 mw_Jx4a65c_add_9ea2d mv_X7_174 dX7_send_116 (ct_addT hE hw3 hd3 (by rw [g24]; exact hn) hn60 hnew (fun t ht z => by
    have := (List.getElem?_eq_some_iff.mp (hd.1 t ht).2.1).1
    omega)) hw3.p24 rfl rfl rfl (Nat.le_of_ble_eq_true rfl) (by decide) (by decide) (by decide) (by omega) (fun r3 w5 hp3 => ?_)
  obtain ⟨rfl, el2, hw5, hd5, hk5⟩ := hp3
  refine V_pop dX7_send_119 rfl ?_
  refine V_aload_n dX7_send_120 rfl ?_
  have hw5 := WF.rf hw5
  have hP5 : alG (snL g nP) 0 9 = nI nP := by rw [show alG (snL g nP) 0 = snL g nP 0 from rfl, g0]; exact hP
  refine V_callV 0 mw_X7_endCut mv_X7_177 dX7_send_121 (ct_X7_endCut hw5.1 hP5 hP10) hw5.p0 rfl rfl rfl (Nat.le_of_ble_eq_true rfl) (by decide) (by decide) (by decide) (by omega) (fun r4 w6 hp4 => ?_)
  obtain ⟨rfl, hw6⟩ := hp4
  have hw6 := hw5.trans hw6
  refine V_aload_n dX7_send_124 rfl ?_
  refine V_get 0 fl_X7_61 dX7_send_125 hw6.p0 rfl ?_
  refine V_rdV 24 mw_Jx4a65c_size_8abf5 mv_X7_160 dX7_send_128 (ct_size hw6) hw6.p24 rfl rfl rfl (Nat.le_of_ble_eq_true rfl) (by decide) (by decide) (by decide) (by omega) ?_
  refine V_iconst (v := 1) dX7_send_131 (by decide) ?_
  refine V_isub dX7_send_132 ?_
  rw [show endG (alG (snL g nP)) nP 24 2 = nI (n + 1) from by rw [endG_k _ _ (by decide) (by decide) (by decide) (by decide) (by decide)]; show snL g nP 24 2 + 1 = _; rw [g24, hn, nI_1], nI_pred]
  refine V_iret dX7_send_133 rfl (by decide) (by omega) (Or.inr ⟨hb0, rfl, el2, ha, hb, hha, hhb, hw6.1, hd5.fr hw6.2, ?_⟩)
  intro j h1 h2 h3
  have h4 := hlt j h1 h2
  rw [hw6.2.2 j h1, hk5 j h1 (by rw [ew4, List.length_append, List.length_append]; omega) (fun a c f z => h3 a c f (h4 ▸ z)), h4]
set_option maxHeartbeats 4000000 in
set_option maxRecDepth 20000 in
theorem ct_X7_send (hE : GH E tE mi) (hw : Wd E ad el g ws) {n : Nat} {T : Nat → TR} {tb xas xos xbs : Nat → Nat} {qe cap : Nat} {fe : Nat → Option Nat} (hd : DY0 E el tE n T ws tb xas xos xbs qe cap fe) (hn : g 24 2 = nI n) (hnn : n ≤ 60) {nP : Nat} (hP : g 0 9 = nI nP) (hP10 : nP ≤ 10) : Ct E yX7_send cX7_send 3 (some (.int)) 7 4 128 [.ref (ad 0)] ws (fun r w => (dSndB g n = false ∧ r = some (.int (-1)) ∧ w = ws) ∨ (dSndB g n = true ∧ r = some (.int (nI n)) ∧ ∃ el2 ha hb, (∀ j, j < nP → ha j = g 1 j) ∧ (∀ j, j < nP → hb j = snL g nP 1 j) ∧ Wd E ad el2 (dSndG g nP) w ∧ DY E el2 tE (n + 1) (fun t => if t < n then T t else (nP, ha, hb, g 0 10, 0)) w ∧ KP E ws w)) := by
  refine Ct_of mw_X7_send rfl (Nat.le_of_ble_eq_true rfl) ?_
  have hw := WF.rf hw
  refine V_aload_n dX7_send_0 rfl ?_
  refine V_rdV (0) mw_X7_isCutAtHand mv_X7_72 dX7_send_1 (ct_X7_isCutAtHand hw) hw.p0 rfl rfl rfl (Nat.le_of_ble_eq_true rfl) (by first | decide | omega) (by decide) (by decide) (by decide) ?_
  refine V_if_eq 29 dX7_send_4 (by decide) (fun h4 => ?_) (fun h4 => ?_)
  · skip
    refine V_iconst (v := -1) dX7_send_29 (by decide) ?_
    refine V_iret dX7_send_30 rfl (by decide) (by decide) ?_
    exact Or.inl ⟨by simp [dSndB, bI_0 h4], rfl, rfl⟩
  · skip
    refine V_aload_n dX7_send_7 rfl ?_
    refine V_get (0) fl_X7_40 dX7_send_8 hw.p0 rfl ?_
    refine V_rdV (18) mw_X4_isFound mv_X7_157 dX7_send_11 (ct_X4_isFound hw) hw.p18 rfl rfl rfl (Nat.le_of_ble_eq_true rfl) (by first | decide | omega) (by decide) (by decide) (by decide) ?_
    refine V_if_eq 29 dX7_send_14 (by decide) (fun h14 => ?_) (fun h14 => ?_)
    · skip
      refine V_iconst (v := -1) dX7_send_29 (by decide) ?_
      refine V_iret dX7_send_30 rfl (by decide) (by decide) ?_
      have hf : g 18 1 = -1 := by
        by_cases z : g 18 1 = -1
        · exact z
        · rw [if_neg z] at h14; exact absurd h14 (by decide)
      exact Or.inl ⟨by simp [dSndB, hf], rfl, rfl⟩
    · skip
      refine V_aload_n dX7_send_17 rfl ?_
      refine V_get (0) fl_X7_61 dX7_send_18 hw.p0 rfl ?_
      refine V_rdV (24) mw_Jx4a65c_size_8abf5 mv_X7_160 dX7_send_21 (ct_size hw) hw.p24 rfl rfl rfl (Nat.le_of_ble_eq_true rfl) (by first | decide | omega) (by decide) (by decide) (by decide) ?_
      refine V_bipush (v := 60) dX7_send_24 (by decide) ?_
      refine V_icmp_lt 31 dX7_send_26 (by decide) (fun h26 => ?_) (fun h26 => ?_)
      · skip
        have hf : ¬ g 18 1 = -1 := by
          intro z
          rw [if_pos z] at h14
          exact h14 rfl
        have hn60 : n < 60 := ltK (a := n) (b := 60) (by omega) (by decide) (by rw [← hn]; exact h26)
        have hb0 : dSndB g n = true := by simp [dSndB, bI_1 h4, hf, hn60]
        refine V_aload_n dX7_send_31 rfl ?_
        refine V_get (0) fl_X7_9 dX7_send_32 hw.p0 rfl ?_
        refine V_aload_n dX7_send_35 rfl ?_
        refine V_get (0) fl_X7_65 dX7_send_36 hw.p0 rfl ?_
        rw [hP]
        refine V_callS mw_J7_copyOf_59c91 ms_X7_163 dX7_send_39 (ct_copyOf hE (q := 1) hw.p1 (by decide) hP10) rfl rfl (Nat.le_of_ble_eq_true rfl) (by first | decide | omega) (by decide) (by decide) (by omega) (fun r39 ws1 hp39 => ?_)
        obtain ⟨xa, ha, rfl, rfl, hha⟩ := hp39
        have hw1 : WF E ad el (snL g 0) (ws ++ [(xa, .inl (cI E, nP, .inl ha))]) (ws ++ [(xa, .inl (cI E, nP, .inl ha))]) := WF.rf hw.1.app
        refine V_astore_n dX7_send_42 (by decide) ?_
        refine V_iconst (v := 0) dX7_send_43 (by decide) ?_
        refine V_istore_n dX7_send_44 (by decide) ?_
        rw [Nat.zero_add nP]
        exact sn_lp hP hP10 (by decide) (by omega) (fun x w hw2 => sn_end hE hw.1 hd hn hn60 hP hP10 hb0 hha hw2 x) (nP + 1) 0 _ _ (Nat.zero_le _) (by omega) rfl hw1
      · skip
        refine V_iconst (v := -1) dX7_send_29 (by decide) ?_
        refine V_iret dX7_send_30 rfl (by decide) (by decide) ?_
        have hn60 : ¬ n < 60 := fun z => h26 (by rw [hn]; exact nI_lt z (by decide))
        exact Or.inl ⟨by simp [dSndB, hn60], rfl, rfl⟩
end SND
