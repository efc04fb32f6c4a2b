/-! ===== the reference: orders ===== -/
/-- the scratch of a search: tried, row, rowMany -/
def sc (g : Nat → Nat → Int32) (a b : Nat → Int32) (r : Int32) : Nat → Nat → Int32 := va_up (va_up (va_up g 44 a) 45 b) 25 (upd (g 25) 30 r)
theorem sc_self (g : Nat → Nat → Int32) : sc g (g 44) (g 45) (g 25 30) = g := by
  unfold sc
  rw [va_up_id, va_up_id]
  have e : upd (g 25) 30 (g 25 30) = g 25 := by
    funext j
    unfold upd
    by_cases h : j = 30 <;> simp [h]
  rw [e, va_up_id]
theorem sc_44 (g : Nat → Nat → Int32) (a b : Nat → Int32) (r : Int32) (a2 : Nat → Int32) : va_up (sc g a b r) 44 a2 = sc g a2 b r := by
  unfold sc
  rw [va_up_sw _ (show (25 : Nat) ≠ 44 by decide), va_up_sw _ (show (45 : Nat) ≠ 44 by decide), va_up_up]
theorem sc_45 (g : Nat → Nat → Int32) (a b : Nat → Int32) (r : Int32) (b2 : Nat → Int32) : va_up (sc g a b r) 45 b2 = sc g a b2 r := by
  unfold sc
  rw [va_up_sw _ (show (25 : Nat) ≠ 45 by decide), va_up_up]
theorem sc_25 (g : Nat → Nat → Int32) (a b : Nat → Int32) (r r2 : Int32) : va_up (sc g a b r) 25 (upd (sc g a b r 25) 30 r2) = sc g a b r2 := by
  show va_up (va_up _ 25 (upd (g 25) 30 r)) 25 (upd (upd (g 25) 30 r) 30 r2) = _
  rw [va_up_up, upd_upd]
  rfl
def mOpen (g : Nat → Nat → Int32) (nN C s p : Nat) : Bool := C.testBit p && (!s.testBit p && decide (mBrk g nN (nI (s ||| 2 ^ p)) = -1))
def rowL (g : Nat → Nat → Int32) (nN nP C : Nat) : Nat → Nat → Nat → (Nat → Int32) → (Nat → Int32) × Nat
  | 0, _, m, f => (f, m)
  | k + 1, s, m, f => if s = C then (f, m) else rowL g nN nP C k (s ||| 2 ^ (fi (mOpen g nN C s) nP 0).toNatClampNeg) (m + 1) (upd f m (fi (mOpen g nN C s) nP 0))
def gOK (g : Nat → Nat → Int32) (nN nP C : Nat) : Nat → Nat → Prop
  | 0, s => s = C
  | k + 1, s => s = C ∨ ∃ p, p < nP ∧ fi (mOpen g nN C s) nP 0 = nI p ∧ gOK g nN nP C k (s ||| 2 ^ p)
def rch (g : Nat → Nat → Int32) (nN nP C : Nat) : Nat → Nat → Prop
  | 0, s => s = C
  | k + 1, s => s = C ∨ ∃ p, p < nP ∧ mOpen g nN C s p = true ∧ rch g nN nP C k (s ||| 2 ^ p)
theorem cnt_drop {A B p : Nat} (hA : A.testBit p = true) (hB : ∀ i, B.testBit i = (A.testBit i && !decide (i = p))) : ∀ n, (n ≤ p → cnt B n = cnt A n) ∧ (p < n → cnt B n + 1 = cnt A n)
  | 0 => ⟨fun _ => rfl, fun h => absurd h (Nat.not_lt_zero _)⟩
  | n + 1 => by
    obtain ⟨h1, h2⟩ := cnt_drop hA hB n
    unfold cnt
    refine ⟨fun h => ?_, fun h => ?_⟩
    · rw [h1 (by omega), hB n]
      simp [show ¬ n = p by omega]
    · by_cases e : n = p
      · subst e
        rw [h1 (Nat.le_refl _), hB n, hA]
        simp
      · have := h2 (by omega)
        rw [hB n]
        simp only [show ¬ n = p by omega, decide_false, Bool.not_false, Bool.and_true]
        omega
theorem rem_step {C s p : Nat} (hC : C.testBit p = true) (hs : s.testBit p = false) (hp : p < 10) : popc (dif C (s ||| 2 ^ p)) + 1 = popc (dif C s) := by
  refine (cnt_drop (A := dif C s) (p := p) (by rw [dif_bit, hC, hs]; rfl) (fun i => ?_) 10).2 hp
  rw [dif_bit, dif_bit, Nat.testBit_or, Nat.testBit_two_pow]
  by_cases e : p = i
  · subst e; simp
  · have e2 : ¬ i = p := fun z => e z.symm
    simp [e, e2]
theorem testBit_big {S i : Nat} (h : S < 1024) (hi : 10 ≤ i) : S.testBit i = false := Nat.testBit_lt_two_pow (Nat.lt_of_lt_of_le h (Nat.pow_le_pow_right (n := 2) (by decide) hi))
theorem cnt_0 {A : Nat} : ∀ n, cnt A n = 0 → ∀ i, i < n → A.testBit i = false
  | 0, _, i, h => absurd h (Nat.not_lt_zero _)
  | n + 1, h, i, hi => by
    unfold cnt at h
    by_cases e : i = n
    · subst e
      cases hb : A.testBit i
      · rfl
      · rw [hb, if_pos rfl] at h; omega
    · exact cnt_0 n (by omega) i (by omega)
theorem rem_0 {C s : Nat} (hC : C < 1024) (hsub : ∀ i, s.testBit i = true → C.testBit i = true) (h : popc (dif C s) = 0) : s = C := by
  apply Nat.eq_of_testBit_eq
  intro i
  by_cases hi : i < 10
  · have := cnt_0 10 h i hi
    rw [dif_bit] at this
    cases h1 : C.testBit i
    · cases h2 : s.testBit i
      · rfl
      · rw [hsub i h2] at h1; cases h1
    · rw [h1] at this
      cases h2 : s.testBit i
      · rw [h2] at this; cases this
      · rfl
  · rw [testBit_big hC (by omega)]
    cases h2 : s.testBit i
    · rfl
    · have := hsub i h2
      rw [testBit_big hC (by omega)] at this; cases this
theorem sub_or {C s p : Nat} (hsub : ∀ i, s.testBit i = true → C.testBit i = true) (hC : C.testBit p = true) : ∀ i, (s ||| 2 ^ p).testBit i = true → C.testBit i = true := by
  intro i hi
  rw [Nat.testBit_or, Nat.testBit_two_pow] at hi
  by_cases e : p = i
  · subst e; exact hC
  · simp [e] at hi
    exact hsub i hi
theorem or_gt {s p : Nat} (hs : s.testBit p = false) : s < s ||| 2 ^ p := by
  have h1 : s ≤ s ||| 2 ^ p := Nat.left_le_or
  refine Nat.lt_of_le_of_ne h1 (fun e => ?_)
  have : (s ||| 2 ^ p).testBit p = true := by rw [Nat.testBit_or, Nat.testBit_two_pow]; simp
  rw [← e, hs] at this
  cases this
section MD5
variable {E : VE} {ad : Nat → Nat} {el : Nat} {g : Nat → Nat → Int32} {w0 ws : va_W}
set_option maxHeartbeats 4000000 in
set_option maxRecDepth 20000 in
theorem go_lpB {nP : Nat} (hP : g 25 19 = nI nP) (hP10 : nP ≤ 10) {nN : Nat} (hN : g 25 20 = nI nN) (hN30 : nN ≤ 30) (hok : MNOK g nN) {C : Nat} (hC : C < 1024) (eC : g 25 24 = nI C) {s m F : Nat} (hs : s < 1024) (hF : 3 ≤ F) (hm : ∀ p, p < nP → mOpen g nN C s p = true → m < 10) (hrec : ∀ p, p < nP → mOpen g nN C s p = true → ∀ {a b : Nat → Int32} {r : Int32} {v ws : va_W}, WF E ad el (sc g a b r) v ws → Ct E yX8_goesOut cX8_goesOut 4 (some (.boolean)) (F - 1) 0 0 [.ref (ad 25), .int (nI (s ||| 2 ^ p)), .int (nI (m + 1))] ws (fun r w => r = some (.int 0) ∧ ∃ a b r2, WF E ad el (sc g a b r2) ws w)) : ∀ (k p : Nat) (x : Int32) (a b : Nat → Int32) (r : Int32) (ws : va_W), p ≤ nP → nP < p + k → x = nI p → WF E ad el (sc g a b r) w0 ws → V E yX8_goesOut cX8_goesOut 4 (some (.boolean)) F 0 0 (fun r w => r = some (.int 0) ∧ ∃ a b r2, WF E ad el (sc g a b r2) w0 w) 35 [some (.ref (ad 25)), some (.int (nI s)), some (.int (nI m)), some (.int x)] [] ws 0 0 := by
  intro k
  induction k with
  | zero => intro p x a b r ws h1 h2; exact absurd h2 (by omega)
  | succ k ih =>
    intro p x a b r ws hpl hpn hx hw
    subst hx
    refine V_iload_n dX8_goesOut_35 rfl ?_
    refine V_aload_n dX8_goesOut_36 rfl ?_
    refine V_get (25) fl_X8_75 dX8_goesOut_37 hw.p25 rfl ?_
    refine V_icmp_ge 108 dX8_goesOut_40 (by decide) (fun h40 => ?_) (fun h40 => ?_)
    · skip
      refine V_iconst (v := 0) dX8_goesOut_108 (by decide) ?_
      refine V_zret dX8_goesOut_109 rfl (by first | exact Or.inl rfl | exact Or.inr rfl) (by decide) (by decide) ?_
      exact ⟨rfl, _, _, _, hw⟩
    · skip
      have hp := nleK (a := nP) (b := p) (by omega) (by omega) (by rw [← hP]; exact h40)
      refine V_aload_n dX8_goesOut_43 rfl ?_
      refine V_get (25) fl_X8_90 dX8_goesOut_44 hw.p25 rfl ?_
      rw [show sc g a b r 25 24 = nI C from eC]
      refine V_iload_n dX8_goesOut_47 rfl ?_
      refine V_rdS mw_X8_isOf ms_X8_93 dX8_goesOut_48 (ct_X8_isOf _ _) rfl rfl (Nat.le_of_ble_eq_true rfl) (by first | decide | omega) (by decide) (by decide) (by decide) ?_
      refine V_if_eq 102 dX8_goesOut_51 (by decide) (fun h51 => ?_) (fun h51 => ?_)
      · skip
        refine V_iinc dX8_goesOut_102 rfl rfl (by decide) ?_
        refine V_goto 35 dX8_goesOut_105 (by decide) ?_
        exact ih (p + 1) _ _ _ _ _ (by omega) (by omega) (nI_1 p) hw
      · skip
        refine V_iload_n dX8_goesOut_54 rfl ?_
        refine V_iload_n dX8_goesOut_55 rfl ?_
        refine V_rdS mw_X8_isOf ms_X8_93 dX8_goesOut_56 (ct_X8_isOf _ _) rfl rfl (Nat.le_of_ble_eq_true rfl) (by first | decide | omega) (by decide) (by decide) (by decide) ?_
        refine V_if_ne 102 dX8_goesOut_59 (by decide) (fun h59 => ?_) (fun h59 => ?_)
        · skip
          refine V_iinc dX8_goesOut_102 rfl rfl (by decide) ?_
          refine V_goto 35 dX8_goesOut_105 (by decide) ?_
          exact ih (p + 1) _ _ _ _ _ (by omega) (by omega) (nI_1 p) hw
        · skip
          refine V_aload_n dX8_goesOut_62 rfl ?_
          refine V_iload_n dX8_goesOut_63 rfl ?_
          refine V_iconst (v := 1) dX8_goesOut_64 (by decide) ?_
          refine V_iload_n dX8_goesOut_65 rfl ?_
          refine V_ishl dX8_goesOut_66 ?_
          refine V_ior dX8_goesOut_67 ?_
          rw [shl1 p (by omega), nx_or]
          refine V_rdV (25) mw_X8_broken mv_X8_114 dX8_goesOut_68 (ct_X8_broken (g := sc g a b r) hw hN hN30 hok _) hw.p25 rfl rfl rfl (Nat.le_of_ble_eq_true rfl) (by first | decide | omega) (by decide) (by decide) (by decide) ?_
          refine V_iconst (v := -1) dX8_goesOut_71 (by decide) ?_
          refine V_icmp_eq 78 dX8_goesOut_72 (by decide) (fun h72 => ?_) (fun h72 => ?_)
          · skip
            have hop : mOpen g nN C s p = true := by
              have hb1 := bI_1 h51
              rw [isOfB_bit (by omega) (by omega)] at hb1
              have hb2 := bI_0 h59
              rw [isOfB_bit (by omega) (by omega)] at hb2
              have hb3 : mBrk g nN (nI (s ||| 2 ^ p)) = -1 := h72
              simp [mOpen, hb1, hb2, hb3]
            refine V_aload_n dX8_goesOut_78 rfl ?_
            refine V_get (25) fl_X8_68 dX8_goesOut_79 hw.p25 rfl ?_
            refine V_iload_n dX8_goesOut_82 rfl ?_
            refine V_iload_n dX8_goesOut_83 rfl ?_
            refine W_iastN (45) hw (by decide) (fun _ => rfl) dX8_goesOut_84 (hm p hp hop) (by first | decide | omega) (fun ws1 hw1 => ?_)
            rw [sc_45] at hw1
            refine V_aload_n dX8_goesOut_85 rfl ?_
            refine V_iload_n dX8_goesOut_86 rfl ?_
            refine V_iconst (v := 1) dX8_goesOut_87 (by decide) ?_
            refine V_iload_n dX8_goesOut_88 rfl ?_
            refine V_ishl dX8_goesOut_89 ?_
            refine V_ior dX8_goesOut_90 ?_
            refine V_iload_n dX8_goesOut_91 rfl ?_
            refine V_iconst (v := 1) dX8_goesOut_92 (by decide) ?_
            refine V_iadd dX8_goesOut_93 ?_
            rw [shl1 p (by omega), nx_or, show nI m + (1 : Int32) = nI (m + 1) from nI_1 m]
            refine V_callV (25) mw_X8_goesOut mv_X8_142 dX8_goesOut_94 (hrec p hp hop hw1) hw1.p25 rfl rfl rfl (Nat.le_of_ble_eq_true rfl) (by first | decide | omega) (by decide) (by decide) (by decide) (fun r94 ws2 hp94 => ?_)
            obtain ⟨rfl, a2, b2, r2, hw2⟩ := hp94
            have hw2 := hw1.trans hw2
            refine V_if_eq 102 dX8_goesOut_97 (by decide) (fun h97 => ?_) (fun h97 => absurd rfl h97)
            refine V_iinc dX8_goesOut_102 rfl rfl (by decide) ?_
            refine V_goto 35 dX8_goesOut_105 (by decide) ?_
            exact ih (p + 1) _ _ _ _ _ (by omega) (by omega) (nI_1 p) hw2
          · skip
            refine V_goto 102 dX8_goesOut_75 (by decide) ?_
            refine V_iinc dX8_goesOut_102 rfl rfl (by decide) ?_
            refine V_goto 35 dX8_goesOut_105 (by decide) ?_
            exact ih (p + 1) _ _ _ _ _ (by omega) (by omega) (nI_1 p) hw
set_option maxHeartbeats 4000000 in
set_option maxRecDepth 20000 in
theorem ct_goB {nP : Nat} (hP : g 25 19 = nI nP) (hP10 : nP ≤ 10) {nN : Nat} (hN : g 25 20 = nI nN) (hN30 : nN ≤ 30) (hok : MNOK g nN) {C : Nat} (hC : C < 1024) (eC : g 25 24 = nI C) : ∀ (k s m : Nat), s < 1024 → (∀ i, s.testBit i = true → C.testBit i = true) → popc (dif C s) ≤ k → m + k ≤ 10 → ¬ rch g nN nP C k s → ∀ {a b : Nat → Int32} {r : Int32} {v ws : va_W}, WF E ad el (sc g a b r) v ws → Ct E yX8_goesOut cX8_goesOut 4 (some (.boolean)) (k + 3) 0 0 [.ref (ad 25), .int (nI s), .int (nI m)] ws (fun r w => r = some (.int 0) ∧ ∃ a b r2, WF E ad el (sc g a b r2) ws w) := by
  intro k
  induction k with
  | zero =>
    intro s m hs hsub hk hmk hnr
    exact absurd (rem_0 hC hsub (by omega)) hnr
  | succ k ihk =>
    intro s m hs hsub hk hmk hnr a b r v ws hw
    have hne : ¬ s = C := fun e => hnr (Or.inl e)
    have hw := WF.rf hw.1
    have hbit : ∀ p, mOpen g nN C s p = true → C.testBit p = true ∧ s.testBit p = false := by
      intro p h
      simp only [mOpen, Bool.and_eq_true, Bool.not_eq_true'] at h
      exact ⟨h.1, h.2.1⟩
    have hm : ∀ p, p < nP → mOpen g nN C s p = true → m < 10 := fun p _ _ => by omega
    have hrec : ∀ p, p < nP → mOpen g nN C s p = true → ∀ {a b : Nat → Int32} {r : Int32} {v ws : va_W}, WF E ad el (sc g a b r) v ws → Ct E yX8_goesOut cX8_goesOut 4 (some (.boolean)) (k + 1 + 3 - 1) 0 0 [.ref (ad 25), .int (nI (s ||| 2 ^ p)), .int (nI (m + 1))] ws (fun r w => r = some (.int 0) ∧ ∃ a b r2, WF E ad el (sc g a b r2) ws w) := by
      intro p hp ho a b r v ws hw
      obtain ⟨h1, h2⟩ := hbit p ho
      exact ihk (s ||| 2 ^ p) (m + 1) (or_lt hs (by omega)) (sub_or hsub h1) (by have := rem_step h1 h2 (show p < 10 by omega); omega) (by omega) (fun z => hnr (Or.inr ⟨p, hp, ho, z⟩)) hw
    refine Ct_of mw_X8_goesOut rfl (Nat.le_of_ble_eq_true rfl) ?_
    refine V_iload_n dX8_goesOut_0 rfl ?_
    refine V_aload_n dX8_goesOut_1 rfl ?_
    refine V_get (25) fl_X8_90 dX8_goesOut_2 hw.p25 rfl ?_
    refine V_icmp_ne 15 dX8_goesOut_5 (by decide) (fun h5 => ?_) (fun h5 => absurd (nI_inj1024 hs hC (by rw [← eC]; exact h5)) hne)
    refine V_aload_n dX8_goesOut_15 rfl ?_
    refine V_get (25) fl_X8_65 dX8_goesOut_16 hw.p25 rfl ?_
    refine V_iload_n dX8_goesOut_19 rfl ?_
    refine V_zaldN (44) dX8_goesOut_20 hw.p44 hs (by first | decide | omega) ?_
    refine V_if_eq 26 dX8_goesOut_21 (by decide) (fun h21 => ?_) (fun h21 => ?_)
    · skip
      refine V_aload_n dX8_goesOut_26 rfl ?_
      refine V_get (25) fl_X8_65 dX8_goesOut_27 hw.p25 rfl ?_
      refine V_iload_n dX8_goesOut_30 rfl ?_
      refine V_iconst (v := 1) dX8_goesOut_31 (by decide) ?_
      refine W_zastN (44) hw (by decide) (fun _ => rfl) dX8_goesOut_32 hs (by first | decide | omega) (fun ws1 hw1 => ?_)
      rw [sc_44] at hw1
      refine V_iconst (v := 0) dX8_goesOut_33 (by decide) ?_
      refine V_istore_n dX8_goesOut_34 (by decide) ?_
      exact go_lpB hP hP10 hN hN30 hok hC eC hs (by omega) hm hrec (nP + 1) 0 _ _ _ _ _ (Nat.zero_le _) (by omega) rfl hw1
    · skip
      refine V_iconst (v := 0) dX8_goesOut_24 (by decide) ?_
      refine V_zret dX8_goesOut_25 rfl (by first | exact Or.inl rfl | exact Or.inr rfl) (by decide) (by decide) ?_
      exact ⟨rfl, _, _, _, hw⟩
set_option maxHeartbeats 4000000 in
set_option maxRecDepth 20000 in
theorem go_lpA {nP : Nat} (hP : g 25 19 = nI nP) (hP10 : nP ≤ 10) {nN : Nat} (hN : g 25 20 = nI nN) (hN30 : nN ≤ 30) (hok : MNOK g nN) {C : Nat} (hC : C < 1024) (eC : g 25 24 = nI C) {s m F q : Nat} (hs : s < 1024) (hF : 3 ≤ F) (hm : m < 10) (hq : q < nP) (eq : fi (mOpen g nN C s) nP 0 = nI q) {b : Nat → Int32} {a : Nat → Int32} {r : Int32} {R : (Nat → Int32) × Nat} (hrec : ∀ {v ws : va_W}, WF E ad el (sc g a (upd b m (nI q)) r) v ws → Ct E yX8_goesOut cX8_goesOut 4 (some (.boolean)) (F - 1) 0 0 [.ref (ad 25), .int (nI (s ||| 2 ^ q)), .int (nI (m + 1))] ws (fun r w => r = some (.int 1) ∧ ∃ a2, WF E ad el (sc g a2 R.1 (nI R.2)) ws w)) : ∀ (k p : Nat) (x : Int32) (ws : va_W), p ≤ nP → nP < p + k → x = nI p → fi (mOpen g nN C s) nP 0 = fi (mOpen g nN C s) (nP - p) p → WF E ad el (sc g a b r) w0 ws → V E yX8_goesOut cX8_goesOut 4 (some (.boolean)) F 0 0 (fun r w => r = some (.int 1) ∧ ∃ a2, WF E ad el (sc g a2 R.1 (nI R.2)) w0 w) 35 [some (.ref (ad 25)), some (.int (nI s)), some (.int (nI m)), some (.int x)] [] ws 0 0 := by
  intro k
  induction k with
  | zero => intro p x ws h1 h2; exact absurd h2 (by omega)
  | succ k ih =>
    intro p x ws hpl hpn hx hinv hw
    subst hx
    refine V_iload_n dX8_goesOut_35 rfl ?_
    refine V_aload_n dX8_goesOut_36 rfl ?_
    refine V_get (25) fl_X8_75 dX8_goesOut_37 hw.p25 rfl ?_
    refine V_icmp_ge 108 dX8_goesOut_40 (by decide) (fun h40 => ?_) (fun h40 => ?_)
    · skip
      refine V_iconst (v := 0) dX8_goesOut_108 (by decide) ?_
      refine V_zret dX8_goesOut_109 rfl (by first | exact Or.inl rfl | exact Or.inr rfl) (by decide) (by decide) ?_
      have hp : nP ≤ p := leK (a := nP) (b := p) (by omega) (by omega) (by rw [← hP]; exact h40)
      have e := eq
      rw [hinv, fi_end hp] at e
      exact absurd e.symm (nI_ne_m1 (by omega))
    · skip
      have hp := nleK (a := nP) (b := p) (by omega) (by omega) (by rw [← hP]; exact h40)
      refine V_aload_n dX8_goesOut_43 rfl ?_
      refine V_get (25) fl_X8_90 dX8_goesOut_44 hw.p25 rfl ?_
      rw [show sc g a b r 25 24 = nI C from eC]
      refine V_iload_n dX8_goesOut_47 rfl ?_
      refine V_rdS mw_X8_isOf ms_X8_93 dX8_goesOut_48 (ct_X8_isOf _ _) rfl rfl (Nat.le_of_ble_eq_true rfl) (by first | decide | omega) (by decide) (by decide) (by decide) ?_
      refine V_if_eq 102 dX8_goesOut_51 (by decide) (fun h51 => ?_) (fun h51 => ?_)
      · skip
        refine V_iinc dX8_goesOut_102 rfl rfl (by decide) ?_
        refine V_goto 35 dX8_goesOut_105 (by decide) ?_
        have hno : mOpen g nN C s p = false := by
          have hb := bI_0 h51
          rw [isOfB_bit (by omega) (by omega)] at hb
          simp [mOpen, hb]
        exact ih (p + 1) _ _ (by omega) (by omega) (nI_1 p) (by rw [hinv, fi_step hp, if_neg (nb hno)]) hw
      · skip
        refine V_iload_n dX8_goesOut_54 rfl ?_
        refine V_iload_n dX8_goesOut_55 rfl ?_
        refine V_rdS mw_X8_isOf ms_X8_93 dX8_goesOut_56 (ct_X8_isOf _ _) rfl rfl (Nat.le_of_ble_eq_true rfl) (by first | decide | omega) (by decide) (by decide) (by decide) ?_
        refine V_if_ne 102 dX8_goesOut_59 (by decide) (fun h59 => ?_) (fun h59 => ?_)
        · skip
          refine V_iinc dX8_goesOut_102 rfl rfl (by decide) ?_
          refine V_goto 35 dX8_goesOut_105 (by decide) ?_
          have hno : mOpen g nN C s p = false := by
            have hb := bI_1 h59
            rw [isOfB_bit (by omega) (by omega)] at hb
            simp [mOpen, hb]
          exact ih (p + 1) _ _ (by omega) (by omega) (nI_1 p) (by rw [hinv, fi_step hp, if_neg (nb hno)]) hw
        · skip
          refine V_aload_n dX8_goesOut_62 rfl ?_
          refine V_iload_n dX8_goesOut_63 rfl ?_
          refine V_iconst (v := 1) dX8_goesOut_64 (by decide) ?_
          refine V_iload_n dX8_goesOut_65 rfl ?_
          refine V_ishl dX8_goesOut_66 ?_
          refine V_ior dX8_goesOut_67 ?_
          rw [shl1 p (by omega), nx_or]
          refine V_rdV (25) mw_X8_broken mv_X8_114 dX8_goesOut_68 (ct_X8_broken (g := sc g a b r) hw hN hN30 hok _) hw.p25 rfl rfl rfl (Nat.le_of_ble_eq_true rfl) (by first | decide | omega) (by decide) (by decide) (by decide) ?_
          refine V_iconst (v := -1) dX8_goesOut_71 (by decide) ?_
          refine V_icmp_eq 78 dX8_goesOut_72 (by decide) (fun h72 => ?_) (fun h72 => ?_)
          · skip
            have hop : mOpen g nN C s p = true := by
              have hb1 := bI_1 h51
              rw [isOfB_bit (by omega) (by omega)] at hb1
              have hb2 := bI_0 h59
              rw [isOfB_bit (by omega) (by omega)] at hb2
              have hb3 : mBrk g nN (nI (s ||| 2 ^ p)) = -1 := h72
              simp [mOpen, hb1, hb2, hb3]
            have epq : p = q := by
              have e := eq
              rw [hinv, fi_step hp, if_pos hop] at e
              exact (nI_eq (by omega) (by omega)).mp e
            subst epq
            refine V_aload_n dX8_goesOut_78 rfl ?_
            refine V_get (25) fl_X8_68 dX8_goesOut_79 hw.p25 rfl ?_
            refine V_iload_n dX8_goesOut_82 rfl ?_
            refine V_iload_n dX8_goesOut_83 rfl ?_
            refine W_iastN (45) hw (by decide) (fun _ => rfl) dX8_goesOut_84 hm (by first | decide | omega) (fun ws1 hw1 => ?_)
            rw [sc_45] at hw1
            refine V_aload_n dX8_goesOut_85 rfl ?_
            refine V_iload_n dX8_goesOut_86 rfl ?_
            refine V_iconst (v := 1) dX8_goesOut_87 (by decide) ?_
            refine V_iload_n dX8_goesOut_88 rfl ?_
            refine V_ishl dX8_goesOut_89 ?_
            refine V_ior dX8_goesOut_90 ?_
            refine V_iload_n dX8_goesOut_91 rfl ?_
            refine V_iconst (v := 1) dX8_goesOut_92 (by decide) ?_
            refine V_iadd dX8_goesOut_93 ?_
            rw [shl1 p (by omega), nx_or, show nI m + (1 : Int32) = nI (m + 1) from nI_1 m]
            refine V_callV (25) mw_X8_goesOut mv_X8_142 dX8_goesOut_94 (hrec hw1) hw1.p25 rfl rfl rfl (Nat.le_of_ble_eq_true rfl) (by first | decide | omega) (by decide) (by decide) (by decide) (fun r94 ws2 hp94 => ?_)
            obtain ⟨rfl, a2, hw2⟩ := hp94
            have hw2 := hw1.trans hw2
            refine V_if_eq 102 dX8_goesOut_97 (by decide) (fun h97 => absurd h97 (by decide)) (fun h97 => ?_)
            refine V_iconst (v := 1) dX8_goesOut_100 (by decide) ?_
            refine V_zret dX8_goesOut_101 rfl (by first | exact Or.inl rfl | exact Or.inr rfl) (by decide) (by decide) ?_
            exact ⟨rfl, _, hw2⟩
          · skip
            refine V_goto 102 dX8_goesOut_75 (by decide) ?_
            refine V_iinc dX8_goesOut_102 rfl rfl (by decide) ?_
            refine V_goto 35 dX8_goesOut_105 (by decide) ?_
            have hno : mOpen g nN C s p = false := by
              have hb : ¬ mBrk g nN (nI (s ||| 2 ^ p)) = -1 := h72
              simp [mOpen, hb]
            exact ih (p + 1) _ _ (by omega) (by omega) (nI_1 p) (by rw [hinv, fi_step hp, if_neg (nb hno)]) hw
set_option maxHeartbeats 4000000 in
set_option maxRecDepth 20000 in
theorem ct_goA {nP : Nat} (hP : g 25 19 = nI nP) (hP10 : nP ≤ 10) {nN : Nat} (hN : g 25 20 = nI nN) (hN30 : nN ≤ 30) (hok : MNOK g nN) {C : Nat} (hC : C < 1024) (eC : g 25 24 = nI C) : ∀ (k s m : Nat), s < 1024 → (∀ i, s.testBit i = true → C.testBit i = true) → popc (dif C s) ≤ k → m + k ≤ 10 → gOK g nN nP C k s → ∀ {a b : Nat → Int32} {r : Int32} {v ws : va_W}, (∀ t, s ≤ t → t < 1024 → a t = 0) → WF E ad el (sc g a b r) v ws → Ct E yX8_goesOut cX8_goesOut 4 (some (.boolean)) (k + 3) 0 0 [.ref (ad 25), .int (nI s), .int (nI m)] ws (fun r w => r = some (.int 1) ∧ ∃ a2, WF E ad el (sc g a2 (rowL g nN nP C k s m b).1 (nI (rowL g nN nP C k s m b).2)) ws w) := by
  intro k
  induction k with
  | zero =>
    intro s m hs hsub hk hmk hgo a b r v ws ha hw
    have hgo : s = C := hgo
    subst hgo
    have hw := WF.rf hw.1
    refine Ct_of mw_X8_goesOut rfl (Nat.le_of_ble_eq_true rfl) ?_
    refine V_iload_n dX8_goesOut_0 rfl ?_
    refine V_aload_n dX8_goesOut_1 rfl ?_
    refine V_get (25) fl_X8_90 dX8_goesOut_2 hw.p25 rfl ?_
    refine V_icmp_ne 15 dX8_goesOut_5 (by decide) (fun h5 => absurd (show nI s = sc g a b r 25 24 from eC.symm) h5) (fun h5 => ?_)
    refine V_aload_n dX8_goesOut_8 rfl ?_
    refine V_iload_n dX8_goesOut_9 rfl ?_
    refine W_put (25) hw (by decide) fp_X8_139 dX8_goesOut_10 rfl rfl rfl rfl (Nat.le_of_ble_eq_true rfl) (fun ws1 hw1 => ?_)
    refine V_iconst (v := 1) dX8_goesOut_13 (by decide) ?_
    refine V_zret dX8_goesOut_14 rfl (by first | exact Or.inl rfl | exact Or.inr rfl) (by decide) (by decide) ?_
    rw [sc_25] at hw1
    exact ⟨rfl, _, hw1⟩
  | succ k ihk =>
    intro s m hs hsub hk hmk hgo a b r v ws ha hw
    have hw := WF.rf hw.1
    refine Ct_of mw_X8_goesOut rfl (Nat.le_of_ble_eq_true rfl) ?_
    refine V_iload_n dX8_goesOut_0 rfl ?_
    refine V_aload_n dX8_goesOut_1 rfl ?_
    refine V_get (25) fl_X8_90 dX8_goesOut_2 hw.p25 rfl ?_
    refine V_icmp_ne 15 dX8_goesOut_5 (by decide) (fun h5 => ?_) (fun h5 => ?_)
    · skip
      have e : ¬ s = C := fun z => h5 (by rw [z]; exact eC.symm)
      refine V_aload_n dX8_goesOut_15 rfl ?_
      refine V_get (25) fl_X8_65 dX8_goesOut_16 hw.p25 rfl ?_
      refine V_iload_n dX8_goesOut_19 rfl ?_
      refine V_zaldN (44) dX8_goesOut_20 hw.p44 hs (by first | decide | omega) ?_
      refine V_if_eq 26 dX8_goesOut_21 (by decide) (fun h21 => ?_) (fun h21 => absurd (ha s (Nat.le_refl _) hs) h21)
      refine V_aload_n dX8_goesOut_26 rfl ?_
      refine V_get (25) fl_X8_65 dX8_goesOut_27 hw.p25 rfl ?_
      refine V_iload_n dX8_goesOut_30 rfl ?_
      refine V_iconst (v := 1) dX8_goesOut_31 (by decide) ?_
      refine W_zastN (44) hw (by decide) (fun _ => rfl) dX8_goesOut_32 hs (by first | decide | omega) (fun ws1 hw1 => ?_)
      rw [sc_44] at hw1
      have hw1 : WF E ad el (sc g (upd a s 1) b r) ws ws1 := hw1
      refine V_iconst (v := 0) dX8_goesOut_33 (by decide) ?_
      refine V_istore_n dX8_goesOut_34 (by decide) ?_
      obtain ⟨q, hq, eq, hg⟩ : ∃ q, q < nP ∧ fi (mOpen g nN C s) nP 0 = nI q ∧ gOK g nN nP C k (s ||| 2 ^ q) := by
        rcases hgo with z | z
        · exact absurd z e
        · exact z
      have hop : mOpen g nN C s q = true := by
        rcases fi_some (P := mOpen g nN C s) nP 0 with z | ⟨j, -, hj, hj2, ej⟩
        · rw [z] at eq; exact absurd eq.symm (nI_ne_m1 (by omega))
        · have : j = q := (nI_eq (by omega) (by omega)).mp (ej.symm.trans eq)
          rw [← this]; exact hj2
      simp only [mOpen, Bool.and_eq_true, Bool.not_eq_true'] at hop
      have hrem := rem_step hop.1 hop.2.1 (show q < 10 by omega)
      have hR : rowL g nN nP C (k + 1) s m b = rowL g nN nP C k (s ||| 2 ^ q) (m + 1) (upd b m (nI q)) := by rw [rowL, if_neg e, eq, nI_clamp (by omega)]
      rw [hR]
      have ha2 : ∀ t, s ||| 2 ^ q ≤ t → t < 1024 → upd a s 1 t = 0 := by
        intro t ht ht2
        have h1 := or_gt hop.2.1
        rw [pk_un (by omega)]
        exact ha t (by omega) ht2
      have hrec2 : ∀ {v ws : va_W}, WF E ad el (sc g (upd a s 1) (upd b m (nI q)) r) v ws → Ct E yX8_goesOut cX8_goesOut 4 (some (.boolean)) (k + 1 + 3 - 1) 0 0 [.ref (ad 25), .int (nI (s ||| 2 ^ q)), .int (nI (m + 1))] ws (fun r w => r = some (.int 1) ∧ ∃ a2, WF E ad el (sc g a2 (rowL g nN nP C k (s ||| 2 ^ q) (m + 1) (upd b m (nI q))).1 (nI (rowL g nN nP C k (s ||| 2 ^ q) (m + 1) (upd b m (nI q))).2)) ws w) := by
        intro v ws hw
        exact ihk (s ||| 2 ^ q) (m + 1) (or_lt hs (by omega)) (sub_or hsub hop.1) (by omega) (by omega) hg ha2 hw
      exact go_lpA (a := upd a s 1) (b := b) (r := r) (R := rowL g nN nP C k (s ||| 2 ^ q) (m + 1) (upd b m (nI q))) hP hP10 hN hN30 hok hC eC hs (by omega) (by omega) hq eq hrec2 (nP + 1) 0 _ _ (Nat.zero_le _) (by omega) rfl rfl hw1
    · skip
      have e := nI_inj1024 hs hC (by rw [← eC]; exact h5)
      subst e
      refine V_aload_n dX8_goesOut_8 rfl ?_
      refine V_iload_n dX8_goesOut_9 rfl ?_
      refine W_put (25) hw (by decide) fp_X8_139 dX8_goesOut_10 rfl rfl rfl rfl (Nat.le_of_ble_eq_true rfl) (fun ws1 hw1 => ?_)
      refine V_iconst (v := 1) dX8_goesOut_13 (by decide) ?_
      refine V_zret dX8_goesOut_14 rfl (by first | exact Or.inl rfl | exact Or.inr rfl) (by decide) (by decide) ?_
      rw [sc_25] at hw1
      exact ⟨rfl, _, by rw [show rowL g nN nP s (k + 1) s m b = (b, m) from by rw [rowL, if_pos rfl]]; exact hw1⟩
end MD5
