/-! ===== the pure side: no step of an order is ever taken back ===== -/
theorem un_taut : ∀ x0 x1 y0 y1 ap ao bp bo cp co : Bool, (x0 && !y0) = false → ((if cp = true then x1 else x0) && !(if co = true then y1 else y0)) = false → ((if ap = true then x1 else x0) && !(if ao = true then y1 else y0)) = false → ((if bp = true then x1 else x0) && !(if bo = true then y1 else y0)) = false → (!ap || cp) = true → (!ao || co) = true → (!bp || cp) = true → (!bo || co) = true → ((if (ap || bp) = true then x1 else x0) && !(if (ao || bo) = true then y1 else y0)) = false := by decide +kernel
abbrev FitR (g : Nat → Nat → Int32) (nN S : Nat) : Prop := mBrk g nN (nI S) = -1
theorem FitR_iff {g : Nat → Nat → Int32} {nN S : Nat} (hN30 : nN ≤ 30) : FitR g nN S ↔ ∀ k, k < nN → pMB g (nI S) k = false := by
  show fi (pMB g (nI S)) nN 0 = -1 ↔ _
  rw [fi_none nN 0 (by omega)]
  exact ⟨fun h k hk => h k (Nat.zero_le _) (by omega), fun h k _ hk => h k (by omega)⟩
def SubN (A C : Nat) : Prop := ∀ p, A.testBit p = true → C.testBit p = true
theorem SubN.bit {A C : Nat} (h : SubN A C) (p : Nat) : (!A.testBit p || C.testBit p) = true := by
  cases e : A.testBit p
  · rfl
  · rw [h p e]; rfl
theorem pMB_at {g : Nat → Nat → Int32} {S k p o : Nat} (hp : p < 10) (ho : o < 10) (hS : S < 1024) (e1 : g 31 k = nI p) (e2 : g 33 k = nI o) : pMB g (nI S) k = ((if S.testBit p = true then decide (g 27 p = g 32 k) else decide (g 26 p = g 32 k)) && !(if S.testBit o = true then isInB (g 27 o) (g 34 k) (g 35 k) else isInB (g 26 o) (g 34 k) (g 35 k))) := by
  rw [pMB, e1, e2, mVer, mVer, isOfB_bit (by omega) (by omega), isOfB_bit (by omega) (by omega), nI_clamp (by omega), nI_clamp (by omega)]
  cases S.testBit p <;> cases S.testBit o <;> rfl
theorem fit_un {g : Nat → Nat → Int32} {nN A B C : Nat} (hok : MNOK g nN) (hN30 : nN ≤ 30) (hA : A < 1024) (hB : B < 1024) (hC : C < 1024) (sA : SubN A C) (sB : SubN B C) (f0 : FitR g nN 0) (fC : FitR g nN C) (fA : FitR g nN A) (fB : FitR g nN B) : FitR g nN (A ||| B) := by
  rw [FitR_iff hN30] at *
  intro k hk
  obtain ⟨p, o, hp, ho, e1, e2⟩ := hok k hk
  have hAB : A ||| B < 1024 := Nat.or_lt_two_pow (n := 10) hA hB
  have q0 := f0 k hk
  have qC := fC k hk
  have qA := fA k hk
  have qB := fB k hk
  rw [pMB_at hp ho (by decide) e1 e2, Nat.zero_testBit, Nat.zero_testBit] at q0
  rw [pMB_at hp ho hC e1 e2] at qC
  rw [pMB_at hp ho hA e1 e2] at qA
  rw [pMB_at hp ho hB e1 e2] at qB
  rw [pMB_at hp ho hAB e1 e2, Nat.testBit_or, Nat.testBit_or]
  exact un_taut _ _ _ _ _ _ _ _ _ _ q0 qC qA qB (sA.bit p) (sA.bit o) (sB.bit p) (sB.bit o)
theorem or_bit {s p q : Nat} : (s ||| 2 ^ p).testBit q = (s.testBit q || decide (p = q)) := by rw [Nat.testBit_or, Nat.testBit_two_pow]
theorem or_same {s p : Nat} (h : s.testBit p = true) : s ||| 2 ^ p = s := by
  apply Nat.eq_of_testBit_eq
  intro i
  rw [or_bit]
  by_cases e : p = i
  · subst e; rw [h]; rfl
  · simp [e]
theorem rch_up {g : Nat → Nat → Int32} {nN nP C : Nat} : ∀ (k s : Nat), rch g nN nP C k s → rch g nN nP C (k + 1) s
  | 0, s, h => Or.inl h
  | k + 1, s, h => by
    rcases h with h | ⟨p, hp, ho, h⟩
    · exact Or.inl h
    · exact Or.inr ⟨p, hp, ho, rch_up k _ h⟩
theorem rch_or {g : Nat → Nat → Int32} {nN nP C : Nat} (hok : MNOK g nN) (hN30 : nN ≤ 30) (hP10 : nP ≤ 10) (hC : C < 1024) (f0 : FitR g nN 0) (fC : FitR g nN C) {p : Nat} (hp : p < nP) (hpC : C.testBit p = true) : ∀ (k s : Nat), s < 1024 → SubN s C → FitR g nN s → FitR g nN (s ||| 2 ^ p) → rch g nN nP C k s → rch g nN nP C k (s ||| 2 ^ p)
  | 0, s, _, _, _, _, h => by
    have e : s = C := h
    subst e
    rw [or_same hpC]
    exact h
  | k + 1, s, hs, hsub, fs, fp, h => by
    have hs2 : ∀ q, C.testBit q = true → SubN (s ||| 2 ^ q) C := fun q hq i hi => by
      rw [or_bit, Bool.or_eq_true, decide_eq_true_iff] at hi
      rcases hi with hi | hi
      · exact hsub i hi
      · subst hi; exact hq
    rcases h with h | ⟨q, hq, hoq, h⟩
    · subst h
      rw [or_same hpC]
      exact Or.inl rfl
    · unfold mOpen at hoq
      rw [Bool.and_eq_true, Bool.and_eq_true, Bool.not_eq_true', decide_eq_true_iff] at hoq
      obtain ⟨hqC, hqs, hqf⟩ := hoq
      by_cases e : q = p
      · subst e
        exact rch_up k _ h
      · have hlq : s ||| 2 ^ q < 1024 := or_lt hs (by omega)
        have hlp : s ||| 2 ^ p < 1024 := or_lt hs (by omega)
        have hun := fit_un hok hN30 hlq hlp hC (hs2 q hqC) (hs2 p hpC) f0 fC hqf fp
        have eu : (s ||| 2 ^ q) ||| (s ||| 2 ^ p) = (s ||| 2 ^ q) ||| 2 ^ p := by
          apply Nat.eq_of_testBit_eq
          intro i
          rw [Nat.testBit_or, or_bit, or_bit, or_bit, or_bit]
          cases s.testBit i <;> cases decide (q = i) <;> cases decide (p = i) <;> rfl
        have ec : (s ||| 2 ^ p) ||| 2 ^ q = (s ||| 2 ^ q) ||| 2 ^ p := by
          apply Nat.eq_of_testBit_eq
          intro i
          rw [or_bit, or_bit, or_bit, or_bit]
          cases s.testBit i <;> cases decide (q = i) <;> cases decide (p = i) <;> rfl
        rw [eu] at hun
        have hr := rch_or hok hN30 hP10 hC f0 fC hp hpC k (s ||| 2 ^ q) hlq (hs2 q hqC) hqf hun h
        refine Or.inr ⟨q, hq, ?_, by rw [ec]; exact hr⟩
        unfold mOpen
        rw [ec, decide_eq_true hun, hqC, or_bit, hqs, decide_eq_false (fun z => e z.symm)]
        rfl
