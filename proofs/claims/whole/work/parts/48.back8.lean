/-! ===== the reference: back ===== -/
def pStM (g : Nat → Nat → Int32) (nW S : Nat) (p : Nat) : Bool := S.testBit p && !decide (mWay g nW (nI p) (g 26 p) = -1)
/-- the offers of S below n that are at home are gone -/
def doF (o h : Nat → Int32) (S n : Nat) : Nat → Int32 := fun p => if (decide (p < n) && (S.testBit p && decide (o p = h p))) = true then -1 else o p
theorem doF_0 (o h : Nat → Int32) (S : Nat) : doF o h S 0 = o := by funext p; simp [doF]
theorem doF_at {o h : Nat → Int32} {S n : Nat} : doF o h S n n = o n := by simp [doF]
theorem doF_s1 {o h : Nat → Int32} {S n : Nat} (hb : S.testBit n = true) (hq : o n = h n) : upd (doF o h S n) n (-1) = doF o h S (n + 1) := by
  funext p
  unfold upd doF
  by_cases e : p = n
  · subst e; simp [hb, hq]
  · rw [if_neg e]
    by_cases q : p < n
    · simp [q, Nat.lt_succ_of_lt q]
    · simp [q, show ¬ p < n + 1 by omega]
theorem doF_s0 {o h : Nat → Int32} {S n : Nat} (hb : (S.testBit n && decide (o n = h n)) = false) : doF o h S n = doF o h S (n + 1) := by
  funext p
  unfold doF
  by_cases e : p = n
  · subst e; simp only [hb, Bool.and_false]
  · by_cases q : p < n
    · simp [q, Nat.lt_succ_of_lt q]
    · simp [q, show ¬ p < n + 1 by omega]
def rsF (o h : Nat → Int32) (n : Nat) : Nat → Int32 := fun p => if p < n then o p else h p
theorem rsF_0 (o h : Nat → Int32) : rsF o h 0 = h := by funext p; simp [rsF]
theorem rsF_s {o h : Nat → Int32} {n : Nat} : upd (rsF o h n) n (o n) = rsF o h (n + 1) := by
  funext p
  unfold upd rsF
  by_cases e : p = n
  · subst e; simp
  · rw [if_neg e]
    by_cases q : p < n
    · simp [q, Nat.lt_succ_of_lt q]
    · simp [q, show ¬ p < n + 1 by omega]
def mB1 (g : Nat → Nat → Int32) (t S n : Nat) : Nat → Nat → Int32 := va_up g 26 (brF (g 26) (fun j => g 41 (10 * t + j)) S n)
def mB5 (g : Nat → Nat → Int32) (S n : Nat) : Nat → Nat → Int32 := va_up g 27 (doF (g 27) (g 26) S n)
def mB4 (g : Nat → Nat → Int32) (o : Nat → Int32) (n : Nat) : Nat → Nat → Int32 := va_up g 26 (rsF o (g 26) n)
def mBackT (g : Nat → Nat → Int32) (nP nN nW t S : Nat) : Int32 × (Nat → Nat → Int32) := if fi (pStM g nW S) nP 0 = -1 then (if mBrk (mB1 g t S nP) nN 0 = -1 then (nI t, va_up (mB5 (mB1 g t S nP) S nP) 43 (upd (g 43) t 1)) else (-1, mB4 (mB1 g t S nP) (g 26) nP)) else (-1, g)
def mBack (g : Nat → Nat → Int32) (nP nN nW nR : Nat) : Int32 × (Nat → Nat → Int32) := if g 25 25 = 0 then (if lastI (g 43) nR = -1 then (-1, g) else mBackT g nP nN nW (lastI (g 43) nR).toNatClampNeg (g 40 (lastI (g 43) nR).toNatClampNeg).toNatClampNeg) else (-1, g)
def FX (ws w : va_W) : Prop := ∀ j, 46 ≤ j → j < ws.length → w[j]? = ws[j]?
section MD7
variable {E : VE} {ad : Nat → Nat} {el : Nat} {g : Nat → Nat → Int32} {w0 ws : va_W} {tE mi : Nat}
set_option maxHeartbeats 4000000 in
set_option maxRecDepth 20000 in
theorem b8_5 {nP : Nat} (hP : g 25 19 = nI nP) (hP10 : nP ≤ 10) {t : Nat} (ht : t < 60) {S : Nat} (hS : S < 1024) (eS : g 40 t = nI S) {Po : Option Value → va_W → Prop} (K : ∀ ws, WF E ad el (va_up (mB5 g S nP) 43 (upd (g 43) t 1)) w0 ws → Po (some (.int (nI t))) ws) (xo : Nat) : ∀ (k p : Nat) (x : Int32) (ws : va_W), p ≤ nP → nP < p + k → x = nI p → WF E ad el (mB5 g S p) w0 ws → V E yX8_back cX8_back 4 (some (.int)) 4 1 10 Po 185 [some (.ref (ad 25)), some (.int (nI t)), some (.ref xo), some (.int x)] [] ws 1 10 := by
  intro k
  induction k with
  | zero => intro p x ws h1 h2; exact absurd h2 (by omega)
  | succ k ih =>
    intro p x ws hpl hpn hx hw
    subst hx
    refine V_iload_n dX8_back_185 rfl ?_
    refine V_aload_n dX8_back_186 rfl ?_
    refine V_get (25) fl_X8_75 dX8_back_187 hw.p25 rfl ?_
    refine V_icmp_ge 234 dX8_back_190 (by decide) (fun h190 => ?_) (fun h190 => ?_)
    · skip
      refine V_aload_n dX8_back_234 rfl ?_
      refine V_get (25) fl_X8_61 dX8_back_235 hw.p25 rfl ?_
      refine V_iload_n dX8_back_238 rfl ?_
      refine V_iconst (v := 1) dX8_back_239 (by decide) ?_
      refine W_zastN (43) hw (by decide) (fun _ => rfl) dX8_back_240 (by omega) (by first | decide | omega) (fun ws1 hw1 => ?_)
      refine V_iload_n dX8_back_241 rfl ?_
      refine V_iret dX8_back_242 rfl (by decide) (by decide) ?_
      rw [show mB5 g S p 25 19 = nI nP from hP] at h190
      have hp : p = nP := by have := leK (a := nP) (b := p) (by omega) (by omega) h190; omega
      subst hp
      exact K _ hw1
    · skip
      rw [show mB5 g S p 25 19 = nI nP from hP] at h190
      have hp := nleK (a := nP) (b := p) (by omega) (by omega) h190
      refine V_aload_n dX8_back_193 rfl ?_
      refine V_get (25) fl_X8_52 dX8_back_194 hw.p25 rfl ?_
      refine V_iload_n dX8_back_197 rfl ?_
      refine V_ialdN (40) dX8_back_198 hw.p40 (by omega) (by first | decide | omega) ?_
      refine V_iload_n dX8_back_199 rfl ?_
      rw [show mB5 g S p 40 t = nI S from eS]
      refine V_rdS mw_X8_isOf ms_X8_93 dX8_back_200 (ct_X8_isOf _ _) rfl rfl (Nat.le_of_ble_eq_true rfl) (by first | decide | omega) (by decide) (by decide) (by decide) ?_
      refine V_if_eq 228 dX8_back_203 (by decide) (fun h203 => ?_) (fun h203 => ?_)
      · skip
        refine V_iinc dX8_back_228 rfl rfl (by decide) ?_
        refine V_goto 185 dX8_back_231 (by decide) ?_
        have hb := bI_0 h203
        rw [isOfB_bit (by omega) (by omega)] at hb
        exact ih (p + 1) _ _ (by omega) (by omega) (nI_1 p) (by rw [mB5, ← doF_s0 (by simp [hb])]; exact hw)
      · skip
        refine V_aload_n dX8_back_206 rfl ?_
        refine V_get (25) fl_X8_13 dX8_back_207 hw.p25 rfl ?_
        refine V_iload_n dX8_back_210 rfl ?_
        refine V_ialdN (27) dX8_back_211 hw.p27 (by omega) (by first | decide | omega) ?_
        refine V_aload_n dX8_back_212 rfl ?_
        refine V_get (25) fl_X8_9 dX8_back_213 hw.p25 rfl ?_
        refine V_iload_n dX8_back_216 rfl ?_
        refine V_ialdN (26) dX8_back_217 hw.p26 (by omega) (by first | decide | omega) ?_
        refine V_icmp_ne 228 dX8_back_218 (by decide) (fun h218 => ?_) (fun h218 => ?_)
        · skip
          refine V_iinc dX8_back_228 rfl rfl (by decide) ?_
          refine V_goto 185 dX8_back_231 (by decide) ?_
          rw [show mB5 g S p 27 p = g 27 p from doF_at] at h218
          have h218 : ¬ g 27 p = g 26 p := h218
          exact ih (p + 1) _ _ (by omega) (by omega) (nI_1 p) (by rw [mB5, ← doF_s0 (by rw [decide_eq_false h218, Bool.and_false])]; exact hw)
        · skip
          refine V_aload_n dX8_back_221 rfl ?_
          refine V_get (25) fl_X8_13 dX8_back_222 hw.p25 rfl ?_
          refine V_iload_n dX8_back_225 rfl ?_
          refine V_iconst (v := -1) dX8_back_226 (by decide) ?_
          refine W_iastN (27) hw (by decide) (fun _ => rfl) dX8_back_227 (by omega) (by first | decide | omega) (fun ws1 hw1 => ?_)
          refine V_iinc dX8_back_228 rfl rfl (by decide) ?_
          refine V_goto 185 dX8_back_231 (by decide) ?_
          have hb := bI_1 h203
          rw [isOfB_bit (by omega) (by omega)] at hb
          rw [show mB5 g S p 27 p = g 27 p from doF_at] at h218
          have h218 : g 27 p = g 26 p := h218
          rw [show va_up (mB5 g S p) 27 (upd (mB5 g S p 27) p (-1)) = mB5 g S (p + 1) from by rw [mB5, va_up_up, show va_up g 27 (doF (g 27) (g 26) S p) 27 = doF (g 27) (g 26) S p from rfl, doF_s1 hb h218]; rfl] at hw1
          exact ih (p + 1) _ _ (by omega) (by omega) (nI_1 p) hw1
set_option maxHeartbeats 4000000 in
set_option maxRecDepth 20000 in
theorem b8_4 {nP : Nat} (hP : g 25 19 = nI nP) (hP10 : nP ≤ 10) {qo xo : Nat} {o : Nat → Int32} (hq : 46 ≤ qo) (ho : w0[qo]? = some (xo, .inl (cI E, 10, .inl o))) {Po : Option Value → va_W → Prop} (K : ∀ ws, WF E ad el (mB4 g o nP) w0 ws → Po (some (.int (-1))) ws) (z1 : Option Value) : ∀ (k p : Nat) (x : Int32) (ws : va_W), p ≤ nP → nP < p + k → x = nI p → WF E ad el (mB4 g o p) w0 ws → V E yX8_back cX8_back 4 (some (.int)) 4 1 10 Po 158 [some (.ref (ad 25)), z1, some (.ref xo), some (.int x)] [] ws 1 10 := by
  intro k
  induction k with
  | zero => intro p x ws h1 h2; exact absurd h2 (by omega)
  | succ k ih =>
    intro p x ws hpl hpn hx hw
    subst hx
    refine V_iload_n dX8_back_158 rfl ?_
    refine V_aload_n dX8_back_159 rfl ?_
    refine V_get (25) fl_X8_75 dX8_back_160 hw.p25 rfl ?_
    refine V_icmp_ge 181 dX8_back_163 (by decide) (fun h163 => ?_) (fun h163 => ?_)
    · skip
      refine V_iconst (v := -1) dX8_back_181 (by decide) ?_
      refine V_iret dX8_back_182 rfl (by decide) (by decide) ?_
      rw [show mB4 g o p 25 19 = nI nP from hP] at h163
      have hp : p = nP := by have := leK (a := nP) (b := p) (by omega) (by omega) h163; omega
      subst hp
      exact K _ hw
    · skip
      rw [show mB4 g o p 25 19 = nI nP from hP] at h163
      have hp := nleK (a := nP) (b := p) (by omega) (by omega) h163
      refine V_aload_n dX8_back_166 rfl ?_
      refine V_get (25) fl_X8_9 dX8_back_167 hw.p25 rfl ?_
      refine V_iload_n dX8_back_170 rfl ?_
      refine V_aload_n dX8_back_171 rfl ?_
      refine V_iload_n dX8_back_172 rfl ?_
      refine V_ialdN (qo) dX8_back_173 (by rw [hw.2.2 qo hq]; exact ho) (by omega) (by first | decide | omega) ?_
      refine W_iastN (26) hw (by decide) (fun _ => rfl) dX8_back_174 (by omega) (by first | decide | omega) (fun ws1 hw1 => ?_)
      refine V_iinc dX8_back_175 rfl rfl (by decide) ?_
      refine V_goto 158 dX8_back_178 (by decide) ?_
      rw [show va_up (mB4 g o p) 26 (upd (mB4 g o p 26) p (o p)) = mB4 g o (p + 1) from by rw [mB4, va_up_up, show va_up g 26 (rsF o (g 26) p) 26 = rsF o (g 26) p from rfl, rsF_s]; rfl] at hw1
      exact ih (p + 1) _ _ (by omega) (by omega) (nI_1 p) hw1
set_option maxHeartbeats 4000000 in
set_option maxRecDepth 20000 in
theorem b8_3 {nP : Nat} (hP : g 25 19 = nI nP) (hP10 : nP ≤ 10) {nN : Nat} (hN : g 25 20 = nI nN) (hN30 : nN ≤ 30) (hok : MNOK g nN) {t : Nat} (ht : t < 60) {S : Nat} (hS : S < 1024) (eS : g 40 t = nI S) {qo xo : Nat} {o : Nat → Int32} (hq : 46 ≤ qo) (ho : w0[qo]? = some (xo, .inl (cI E, 10, .inl o))) {Po : Option Value → va_W → Prop} (K0 : ∀ ws, ¬ mBrk (mB1 g t S nP) nN 0 = -1 → WF E ad el (mB4 (mB1 g t S nP) o nP) w0 ws → Po (some (.int (-1))) ws) (K1 : ∀ ws, mBrk (mB1 g t S nP) nN 0 = -1 → WF E ad el (va_up (mB5 (mB1 g t S nP) S nP) 43 (upd (g 43) t 1)) w0 ws → Po (some (.int (nI t))) ws) : ∀ (k p : Nat) (x : Int32) (ws : va_W), p ≤ nP → nP < p + k → x = nI p → WF E ad el (mB1 g t S p) w0 ws → V E yX8_back cX8_back 4 (some (.int)) 4 1 10 Po 103 [some (.ref (ad 25)), some (.int (nI t)), some (.ref xo), some (.int x)] [] ws 1 10 := by
  intro k
  induction k with
  | zero => intro p x ws h1 h2; exact absurd h2 (by omega)
  | succ k ih =>
    intro p x ws hpl hpn hx hw
    subst hx
    refine V_iload_n dX8_back_103 rfl ?_
    refine V_aload_n dX8_back_104 rfl ?_
    refine V_get (25) fl_X8_75 dX8_back_105 hw.p25 rfl ?_
    refine V_icmp_ge 147 dX8_back_108 (by decide) (fun h108 => ?_) (fun h108 => ?_)
    · skip
      rw [show mB1 g t S p 25 19 = nI nP from hP] at h108
      have hp : nP = p := by have := leK (a := nP) (b := p) (by omega) (by omega) h108; omega
      subst hp
      refine V_aload_n dX8_back_147 rfl ?_
      refine V_iconst (v := 0) dX8_back_148 (by decide) ?_
      refine V_rdV (25) mw_X8_broken mv_X8_114 dX8_back_149 (ct_X8_broken hw (show mB1 g t S nP 25 20 = nI nN from hN) hN30 hok 0) hw.p25 rfl rfl rfl (Nat.le_of_ble_eq_true rfl) (by first | decide | omega) (by decide) (by decide) (by decide) ?_
      refine V_iconst (v := -1) dX8_back_152 (by decide) ?_
      refine V_icmp_eq 183 dX8_back_153 (by decide) (fun h153 => ?_) (fun h153 => ?_)
      · skip
        refine V_iconst (v := 0) dX8_back_183 (by decide) ?_
        refine V_istore_n dX8_back_184 (by decide) ?_
        exact b8_5 (g := mB1 g t S nP) hP hP10 ht hS eS (fun w h => K1 w h153 h) _ (nP + 1) 0 _ _ (Nat.zero_le _) (by omega) rfl (by rw [mB5, doF_0, va_up_id]; exact hw)
      · skip
        refine V_iconst (v := 0) dX8_back_156 (by decide) ?_
        refine V_istore_n dX8_back_157 (by decide) ?_
        exact b8_4 (g := mB1 g t S nP) hP hP10 hq ho (fun w h => K0 w h153 h) _ (nP + 1) 0 _ _ (Nat.zero_le _) (by omega) rfl (by rw [mB4, rsF_0, va_up_id]; exact hw)
    · skip
      rw [show mB1 g t S p 25 19 = nI nP from hP] at h108
      have hp := nleK (a := nP) (b := p) (by omega) (by omega) h108
      refine V_aload_n dX8_back_111 rfl ?_
      refine V_get (25) fl_X8_52 dX8_back_112 hw.p25 rfl ?_
      refine V_iload_n dX8_back_115 rfl ?_
      refine V_ialdN (40) dX8_back_116 hw.p40 (by omega) (by first | decide | omega) ?_
      refine V_iload_n dX8_back_117 rfl ?_
      rw [show mB1 g t S p 40 t = nI S from eS]
      refine V_rdS mw_X8_isOf ms_X8_93 dX8_back_118 (ct_X8_isOf _ _) rfl rfl (Nat.le_of_ble_eq_true rfl) (by first | decide | omega) (by decide) (by decide) (by decide) ?_
      refine V_if_eq 141 dX8_back_121 (by decide) (fun h121 => ?_) (fun h121 => ?_)
      · skip
        refine V_iinc dX8_back_141 rfl rfl (by decide) ?_
        refine V_goto 103 dX8_back_144 (by decide) ?_
        have hb := bI_0 h121
        rw [isOfB_bit (by omega) (by omega)] at hb
        exact ih (p + 1) _ _ (by omega) (by omega) (nI_1 p) (by rw [mB1, ← brF_s0 hb]; exact hw)
      · skip
        refine V_aload_n dX8_back_124 rfl ?_
        refine V_get (25) fl_X8_9 dX8_back_125 hw.p25 rfl ?_
        refine V_iload_n dX8_back_128 rfl ?_
        refine V_aload_n dX8_back_129 rfl ?_
        refine V_get (25) fl_X8_55 dX8_back_130 hw.p25 rfl ?_
        refine V_bipush (v := 10) dX8_back_133 (by decide) ?_
        refine V_iload_n dX8_back_135 rfl ?_
        refine V_imul dX8_back_136 ?_
        refine V_iload_n dX8_back_137 rfl ?_
        refine V_iadd dX8_back_138 ?_
        rw [show (10 : Int32) * nI t = nI (10 * t) from pk_mul 10 t, nI_add]
        refine V_ialdN (41) dX8_back_139 hw.p41 (by omega) (by first | decide | omega) ?_
        refine W_iastN (26) hw (by decide) (fun _ => rfl) dX8_back_140 (by omega) (by first | decide | omega) (fun ws1 hw1 => ?_)
        refine V_iinc dX8_back_141 rfl rfl (by decide) ?_
        refine V_goto 103 dX8_back_144 (by decide) ?_
        have hb := bI_1 h121
        rw [isOfB_bit (by omega) (by omega)] at hb
        have hw1 : WF E ad el (va_up (mB1 g t S p) 26 (upd (mB1 g t S p 26) p (g 41 (10 * t + p)))) w0 ws1 := hw1
        rw [show va_up (mB1 g t S p) 26 (upd (mB1 g t S p 26) p (g 41 (10 * t + p))) = mB1 g t S (p + 1) from by rw [mB1, va_up_up, show va_up g 26 (brF (g 26) (fun j => g 41 (10 * t + j)) S p) 26 = brF (g 26) (fun j => g 41 (10 * t + j)) S p from rfl, brF_s1 (f := fun j => g 41 (10 * t + j)) hb]; rfl] at hw1
        exact ih (p + 1) _ _ (by omega) (by omega) (nI_1 p) hw1
set_option maxHeartbeats 4000000 in
set_option maxRecDepth 20000 in
theorem b8_2 (hE : GH E tE mi) (hw : WF E ad el g w0 ws) {nP : Nat} (hP : g 25 19 = nI nP) (hP10 : nP ≤ 10) {nN : Nat} (hN : g 25 20 = nI nN) (hN30 : nN ≤ 30) (hok : MNOK g nN) {nW : Nat} (hW : g 25 22 = nI nW) (hW60 : nW ≤ 60) {t : Nat} (ht : t < 60) {S : Nat} (hS : S < 1024) (eS : g 40 t = nI S) {Po : Option Value → va_W → Prop} (KS : ¬ fi (pStM g nW S) nP 0 = -1 → Po (some (.int (-1))) ws) (K0 : ∀ w, fi (pStM g nW S) nP 0 = -1 → ¬ mBrk (mB1 g t S nP) nN 0 = -1 → Wd E ad el (mB4 (mB1 g t S nP) (g 26) nP) w → FX w0 w → Po (some (.int (-1))) w) (K1 : ∀ w, fi (pStM g nW S) nP 0 = -1 → mBrk (mB1 g t S nP) nN 0 = -1 → Wd E ad el (va_up (mB5 (mB1 g t S nP) S nP) 43 (upd (g 43) t 1)) w → FX w0 w → Po (some (.int (nI t))) w) : ∀ (k p : Nat) (x : Int32), p ≤ nP → nP < p + k → x = nI p → fi (pStM g nW S) nP 0 = fi (pStM g nW S) (nP - p) p → V E yX8_back cX8_back 4 (some (.int)) 4 1 10 Po 46 [some (.ref (ad 25)), some (.int (nI t)), some (.int x), none] [] ws 0 0 := by
  intro k
  induction k with
  | zero => intro p x h1 h2; exact absurd h2 (by omega)
  | succ k ih =>
    intro p x hpl hpn hx hinv
    subst hx
    refine V_iload_n dX8_back_46 rfl ?_
    refine V_aload_n dX8_back_47 rfl ?_
    refine V_get (25) fl_X8_75 dX8_back_48 hw.p25 rfl ?_
    refine V_icmp_ge 90 dX8_back_51 (by decide) (fun h51 => ?_) (fun h51 => ?_)
    · skip
      have hp := leK (a := nP) (b := p) (by omega) (by omega) (by rw [← hP]; exact h51)
      have hst : fi (pStM g nW S) nP 0 = -1 := by rw [hinv, fi_end hp]
      refine V_aload_n dX8_back_90 rfl ?_
      refine V_get (25) fl_X8_9 dX8_back_91 hw.p25 rfl ?_
      refine V_cloneI 26 hE wd_clL_X8 dX8_back_94 hw.p26 (by decide) (by decide) (by decide) (by decide) (fun xo => ?_)
      have hlen := hw.1.len
      have hl2 : ws.length = w0.length := hw.2.1
      have hw1 : WF E ad el g (ws ++ [(xo, .inl (cI E, 10, .inl (g 26)))]) (ws ++ [(xo, .inl (cI E, 10, .inl (g 26)))]) := WF.rf hw.1.app
      have hfx : ∀ (g1 : Nat → Nat → Int32) (w : va_W), WF E ad el g1 (ws ++ [(xo, .inl (cI E, 10, .inl (g 26)))]) w → FX w0 w := fun g1 w h j h1 h2 => by
        rw [h.2.2 j h1, List.getElem?_append_left (by omega)]
        exact hw.2.2 j h1
      refine V_castI ws.length wd_clC_X8 dX8_back_97 app_at ?_
      refine V_astore_n dX8_back_100 (by decide) ?_
      refine V_iconst (v := 0) dX8_back_101 (by decide) ?_
      refine V_istore_n dX8_back_102 (by decide) ?_
      exact b8_3 hP hP10 hN hN30 hok ht hS eS hlen app_at (fun w hb h => K0 w hst hb h.1 (hfx _ _ h)) (fun w hb h => K1 w hst hb h.1 (hfx _ _ h)) (nP + 1) 0 _ _ (Nat.zero_le _) (by omega) rfl (by rw [mB1, brF_0, va_up_id]; exact hw1)
    · skip
      have hp := nleK (a := nP) (b := p) (by omega) (by omega) (by rw [← hP]; exact h51)
      refine V_aload_n dX8_back_54 rfl ?_
      refine V_get (25) fl_X8_52 dX8_back_55 hw.p25 rfl ?_
      refine V_iload_n dX8_back_58 rfl ?_
      refine V_ialdN (40) dX8_back_59 hw.p40 (by omega) (by first | decide | omega) ?_
      refine V_iload_n dX8_back_60 rfl ?_
      rw [eS]
      refine V_rdS mw_X8_isOf ms_X8_93 dX8_back_61 (ct_X8_isOf _ _) rfl rfl (Nat.le_of_ble_eq_true rfl) (by first | decide | omega) (by decide) (by decide) (by decide) ?_
      refine V_if_eq 84 dX8_back_64 (by decide) (fun h64 => ?_) (fun h64 => ?_)
      · skip
        refine V_iinc dX8_back_84 rfl rfl (by decide) ?_
        refine V_goto 46 dX8_back_87 (by decide) ?_
        have hb := bI_0 h64
        rw [isOfB_bit (by omega) (by omega)] at hb
        exact ih (p + 1) _ (by omega) (by omega) (nI_1 p) (by rw [hinv, fi_step hp, if_neg (by simp [pStM, hb])])
      · skip
        refine V_aload_n dX8_back_67 rfl ?_
        refine V_iload_n dX8_back_68 rfl ?_
        refine V_aload_n dX8_back_69 rfl ?_
        refine V_get (25) fl_X8_9 dX8_back_70 hw.p25 rfl ?_
        refine V_iload_n dX8_back_73 rfl ?_
        refine V_ialdN (26) dX8_back_74 hw.p26 (by omega) (by first | decide | omega) ?_
        refine V_rdV (25) mw_X8_way mv_X8_158 dX8_back_75 (ct_X8_way hw hW hW60 (nI p) (g 26 p)) hw.p25 rfl rfl rfl (Nat.le_of_ble_eq_true rfl) (by first | decide | omega) (by decide) (by decide) (by decide) ?_
        refine V_iconst (v := -1) dX8_back_78 (by decide) ?_
        refine V_icmp_eq 84 dX8_back_79 (by decide) (fun h79 => ?_) (fun h79 => ?_)
        · skip
          refine V_iinc dX8_back_84 rfl rfl (by decide) ?_
          refine V_goto 46 dX8_back_87 (by decide) ?_
          exact ih (p + 1) _ (by omega) (by omega) (nI_1 p) (by rw [hinv, fi_step hp, if_neg (by simp [pStM, h79])])
        · skip
          refine V_iconst (v := -1) dX8_back_82 (by decide) ?_
          refine V_iret dX8_back_83 rfl (by decide) (by decide) ?_
          have hb := bI_1 h64
          rw [isOfB_bit (by omega) (by omega)] at hb
          exact KS (by rw [hinv, fi_step hp, if_pos (by simp [pStM, hb, h79])]; exact nI_ne_m1 (by omega))
set_option maxHeartbeats 4000000 in
set_option maxRecDepth 20000 in
theorem b8_1 (hw : WF E ad el g w0 ws) {nR : Nat} (hR60 : nR ≤ 60) {Po : Option Value → va_W → Prop} (K : V E yX8_back cX8_back 4 (some (.int)) 4 1 10 Po 31 [some (.ref (ad 25)), some (.int (lastI (g 43) nR)), none, none] [] ws 0 0) : ∀ (t : Nat) (x : Int32), x = nI t + (-1) → t ≤ nR → lastI (g 43) nR = lastI (g 43) t → V E yX8_back cX8_back 4 (some (.int)) 4 1 10 Po 12 [some (.ref (ad 25)), some (.int x), none, none] [] ws 0 0 := by
  intro t
  induction t with
  | zero =>
    intro x hx ht0 hinv
    rw [show nI 0 + (-1 : Int32) = -1 from by decide] at hx
    subst hx
    refine V_iload_n dX8_back_12 rfl ?_
    refine V_if_lt 31 dX8_back_13 (by decide) (fun h13 => ?_) (fun h13 => absurd (by decide) h13)
    rw [hinv, lastI] at K
    exact K
  | succ t ih =>
    intro x hx ht0 hinv
    rw [pk_m1] at hx
    subst hx
    refine V_iload_n dX8_back_12 rfl ?_
    refine V_if_lt 31 dX8_back_13 (by decide) (fun h13 => absurd h13 (nI_pos (by omega))) (fun h13 => ?_)
    refine V_aload_n dX8_back_16 rfl ?_
    refine V_get (25) fl_X8_61 dX8_back_17 hw.p25 rfl ?_
    refine V_iload_n dX8_back_20 rfl ?_
    refine V_zaldN (43) dX8_back_21 hw.p43 (by omega) (by first | decide | omega) ?_
    refine V_if_eq 31 dX8_back_22 (by decide) (fun h22 => ?_) (fun h22 => ?_)
    · skip
      rw [hinv, lastI, if_pos h22] at K
      exact K
    · skip
      refine V_iinc dX8_back_25 rfl rfl (by decide) ?_
      refine V_goto 12 dX8_back_28 (by decide) ?_
      exact ih _ rfl (by omega) (by rw [hinv, lastI, if_neg h22])
theorem lastI_m1 {f : Nat → Int32} {n : Nat} (h : ¬ (0 : Int32) ≤ lastI f n) (hn : n ≤ 60) : lastI f n = -1 := by
  by_cases q : lastI f n = -1
  · exact q
  · obtain ⟨t, h1, h2, -⟩ := lastI_ex q
    rw [h2] at h
    exact absurd ((nI_leI (a := 0) (b := t) (by decide) (by omega)).mpr (Nat.zero_le _)) h
theorem b8_fin {b : Int32 × (Nat → Nat → Int32)} {v : Int32} {g1 : Nat → Nat → Int32} {w : va_W} (e : b = (v, g1)) (h : Wd E ad el g1 w) (f : FX w0 w) : some (.int v) = some (Value.int b.1) ∧ Wd E ad el b.2 w ∧ FX w0 w := by
  subst e
  exact ⟨rfl, h, f⟩
set_option maxHeartbeats 4000000 in
set_option maxRecDepth 20000 in
theorem b8_0 (hE : GH E tE mi) (hw : WF E ad el g w0 ws) {nP : Nat} (hP : g 25 19 = nI nP) (hP10 : nP ≤ 10) {nN : Nat} (hN : g 25 20 = nI nN) (hN30 : nN ≤ 30) (hok : MNOK g nN) {nW : Nat} (hW : g 25 22 = nI nW) (hW60 : nW ≤ 60) {nR : Nat} (hR60 : nR ≤ 60) (hST : ∀ t, t < nR → ∃ S, S < 1024 ∧ g 40 t = nI S) : V E yX8_back cX8_back 4 (some (.int)) 4 1 10 (fun r w => r = some (.int (mBack g nP nN nW nR).1) ∧ Wd E ad el (mBack g nP nN nW nR).2 w ∧ FX w0 w) 31 [some (.ref (ad 25)), some (.int (lastI (g 43) nR)), none, none] [] ws 0 0 := by
  refine V_aload_n dX8_back_31 rfl ?_
  refine V_get (25) fl_X8_78 dX8_back_32 hw.p25 rfl ?_
  refine V_if_ne 42 dX8_back_35 (by decide) (fun h35 => ?_) (fun h35 => ?_)
  · skip
    refine V_iconst (v := -1) dX8_back_42 (by decide) ?_
    refine V_iret dX8_back_43 rfl (by decide) (by decide) ?_
    exact b8_fin (by rw [mBack, if_neg h35]) hw.1 (fun j hj _ => hw.2.2 j hj)
  · skip
    refine V_iload_n dX8_back_38 rfl ?_
    refine V_if_ge 44 dX8_back_39 (by decide) (fun h39 => ?_) (fun h39 => ?_)
    · skip
      have h14 : ¬ lastI (g 43) nR = -1 := fun z => by
        rw [z] at h39
        exact absurd h39 (by decide)
      obtain ⟨t, ht, hlt, hb0⟩ := lastI_ex h14
      obtain ⟨S, hS, eS⟩ := hST t ht
      have hT : mBack g nP nN nW nR = mBackT g nP nN nW t S := by rw [mBack, if_pos h35, if_neg h14, hlt, nI_clamp (by omega), eS, nI_clamp (by omega)]
      rw [hlt]
      refine V_iconst (v := 0) dX8_back_44 (by decide) ?_
      refine V_istore_n dX8_back_45 (by decide) ?_
      exact b8_2 hE hw hP hP10 hN hN30 hok hW hW60 (by omega) hS eS (fun q => b8_fin (by rw [hT, mBackT, if_neg q]) hw.1 (fun j hj _ => hw.2.2 j hj)) (fun w q1 q2 h f => b8_fin (by rw [hT, mBackT, if_pos q1, if_neg q2]) h f) (fun w q1 q2 h f => b8_fin (by rw [hT, mBackT, if_pos q1, if_pos q2]) h f) (nP + 1) 0 _ (Nat.zero_le _) (by omega) rfl rfl
    · skip
      refine V_iconst (v := -1) dX8_back_42 (by decide) ?_
      refine V_iret dX8_back_43 rfl (by decide) (by decide) ?_
      exact b8_fin (by rw [mBack, if_pos h35, if_pos (lastI_m1 h39 hR60)]) hw.1 (fun j hj _ => hw.2.2 j hj)
set_option maxHeartbeats 4000000 in
set_option maxRecDepth 20000 in
theorem ct_X8_back (hE : GH E tE mi) (hw : Wd E ad el g ws) {nP : Nat} (hP : g 25 19 = nI nP) (hP10 : nP ≤ 10) {nN : Nat} (hN : g 25 20 = nI nN) (hN30 : nN ≤ 30) (hok : MNOK g nN) {nW : Nat} (hW : g 25 22 = nI nW) (hW60 : nW ≤ 60) {nR : Nat} (hR : g 25 23 = nI nR) (hR60 : nR ≤ 60) (hST : ∀ t, t < nR → ∃ S, S < 1024 ∧ g 40 t = nI S) : Ct E yX8_back cX8_back 4 (some (.int)) 4 1 10 [.ref (ad 25)] ws (fun r w => r = some (.int (mBack (T0 g) nP nN nW nR).1) ∧ Wd E ad el (mBack (T0 g) nP nN nW nR).2 w ∧ FX ws w) := by
  refine Ct_of mw_X8_back rfl (Nat.le_of_ble_eq_true rfl) ?_
  have hw := WF.rf hw
  refine V_aload_n dX8_back_0 rfl ?_
  refine V_iconst (v := 0) dX8_back_1 (by decide) ?_
  refine W_put (25) hw (by decide) fp_X8_71 dX8_back_2 rfl rfl rfl rfl (Nat.le_of_ble_eq_true rfl) (fun ws1 hw1 => ?_)
  have hw1 : WF E ad el (T0 g) ws ws1 := hw1
  refine V_aload_n dX8_back_5 rfl ?_
  refine V_get (25) fl_X8_149 dX8_back_6 hw1.p25 rfl ?_
  rw [show T0 g 25 23 = nI nR from hR]
  refine V_iconst (v := 1) dX8_back_9 (by decide) ?_
  refine V_isub dX8_back_10 ?_
  refine V_istore_n dX8_back_11 (by decide) ?_
  exact b8_1 hw1 hR60 (b8_0 (g := T0 g) hE hw1 hP hP10 hN hN30 hok hW hW60 hR60 hST) nR _ (by rw [show nI nR - (1 : Int32) = nI nR + (-1) from Int32.sub_eq_add_neg _ _]) (Nat.le_refl _) rfl
end MD7
