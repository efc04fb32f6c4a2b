/-! ===== the pure side: broken needs, both ways ===== -/
theorem pw_lt {p : Nat} (h : p < 10) : (2 : Nat) ^ p < 2 ^ 10 := Nat.pow_lt_pow_right (by decide) h
theorem wAsk_lt {p o : Nat} (hp : p < 10) (ho : o < 10) (b6 b7 b8 b9 : Bool) : wAsk p o b6 b7 b8 b9 < 2 ^ 10 := by
  unfold wAsk
  split
  · decide
  · refine Nat.or_lt_two_pow ?_ ?_
    · split
      · decide
      · exact pw_lt hp
    · split
      · decide
      · exact pw_lt ho
theorem wBrk_lt {p o : Nat} (hp : p < 10) (ho : o < 10) (b6 b7 b8 b9 : Bool) : wBrk p o b6 b7 b8 b9 < 2 ^ 10 := by
  unfold wBrk
  split
  · decide
  · refine Nat.or_lt_two_pow ?_ ?_
    · split
      · decide
      · split
        · exact pw_lt hp
        · decide
    · split
      · decide
      · split
        · exact pw_lt ho
        · decide
theorem at10_nI {f : Nat → Int32} {p : Nat} (hp : p < 10) : at10 f (nI p) = f p := by
  rw [at10, if_neg (nI_pos (by omega)), if_neg (show ¬ (10 : Int32) ≤ nI p from fun z => absurd (leK (a := 10) (b := p) (by decide) (by omega) z) (by omega)), nI_clamp (by omega)]
/-- the parts: homes and offers of desk and reference -/
def IvP (g : Nat → Nat → Int32) (nP : Nat) : Prop := ∀ p, p < nP → g 1 p = g 26 p ∧ g 3 p = g 27 p
/-- the needs -/
def IvN (g : Nat → Nat → Int32) (nP nN : Nat) : Prop := ∀ k, k < nN → ∃ p o : Nat, p < nP ∧ o < nP ∧ p ≠ o ∧ (g 9 k = nI p ∧ g 11 k = nI o) ∧ (g 31 k = nI p ∧ g 33 k = nI o) ∧ g 10 k = g 32 k ∧ g 12 k = g 34 k ∧ g 13 k = g 35 k
/-- a set of parts that are offered -/
def OfS (g : Nat → Nat → Int32) (nP S : Nat) : Prop := ∀ p, S.testBit p = true → p < nP ∧ ¬ g 3 p = -1
theorem IvN.nok {g : Nat → Nat → Int32} {nP nN : Nat} (h : IvN g nP nN) (hP10 : nP ≤ 10) : NOK g nN := by
  intro k hk
  obtain ⟨p, o, hp, ho, -, e, -⟩ := h k hk
  exact ⟨p, o, by omega, by omega, e.1, e.2⟩
theorem IvN.mnok {g : Nat → Nat → Int32} {nP nN : Nat} (h : IvN g nP nN) (hP10 : nP ≤ 10) : MNOK g nN := by
  intro k hk
  obtain ⟨p, o, hp, ho, -, -, e, -⟩ := h k hk
  exact ⟨p, o, by omega, by omega, e.1, e.2⟩
theorem ver_eq {g : Nat → Nat → Int32} {nP S p : Nat} (hP : IvP g nP) (hp : p < nP) (hP10 : nP ≤ 10) (hS : S < 2 ^ 31) : mVer g (nI p) (nI S) = if S.testBit p = true then g 3 p else g 1 p := by
  rw [mVer, isOfB_bit hS (by omega), nI_clamp (by omega), (hP p hp).1, (hP p hp).2]
theorem brk_pt {g : Nat → Nat → Int32} {nP nN S k : Nat} (hP : IvP g nP) (hN : IvN g nP nN) (hP10 : nP ≤ 10) (hS : S < 2 ^ 31) (ho : OfS g nP S) (hk : k < nN) : pBrk (wTo g nN 14) (wTo g nN 15) (nI S) k = pMB g (nI S) k := by
  obtain ⟨p, o, hp, hq, hpo, ⟨e9, e11⟩, ⟨e31, e33⟩, e10, e12, e13⟩ := hN k hk
  have l1 := wAsk_lt (p := p) (o := o) (by omega) (by omega) (nH g k) (nO g k) (nHh g k) (nOh g k)
  have l2 := wBrk_lt (p := p) (o := o) (by omega) (by omega) (nH g k) (nO g k) (nHh g k) (nOh g k)
  have l3 : S &&& wAsk p o (nH g k) (nO g k) (nHh g k) (nOh g k) < 2 ^ 31 := Nat.lt_of_le_of_lt Nat.and_le_right (by omega)
  have cp : (nI p).toNatClampNeg = p := nI_clamp (by omega)
  have co : (nI o).toNatClampNeg = o := nI_clamp (by omega)
  have hA : (if S.testBit p = true then nO g k else nH g k) = decide (mVer g (nI p) (nI S) = g 32 k) := by
    rw [ver_eq hP hp hP10 hS, ← e10]
    cases h : S.testBit p
    · rw [if_neg (by decide), if_neg (by decide), nH, e9, cp]
    · rw [if_pos rfl, if_pos rfl, nO, e9, at10_nI (by omega), if_neg (ho p h).2]
  have hB : (if S.testBit o = true then nOh g k else nHh g k) = isInB (mVer g (nI o) (nI S)) (g 34 k) (g 35 k) := by
    rw [ver_eq hP hq hP10 hS, ← e12, ← e13]
    cases h : S.testBit o
    · rw [if_neg (by decide), if_neg (by decide), nHh, e11, co]
      rfl
    · rw [if_pos rfl, if_pos rfl, nOh, e11, at10_nI (by omega), if_neg (ho o h).2]
      rfl
  rw [pBrk, show wTo g nN 14 k = wA g k from if_pos hk, show wTo g nN 15 k = wB g k from if_pos hk, wA, wB, nx_and, e9, e11, cp, co, decide_eq_decide.mpr (nI_eq l3 (by omega)), wk_iff S hpo, hA, hB, pMB, e31, e33]
theorem brk_eq {g : Nat → Nat → Int32} {nP nN S : Nat} (hP : IvP g nP) (hN : IvN g nP nN) (hP10 : nP ≤ 10) (hS : S < 2 ^ 31) (ho : OfS g nP S) : brkD (wTo g nN) nN (nI S) = mBrk g nN (nI S) := by
  unfold brkD mBrk
  exact fi_congr nN 0 (fun j _ hj => brk_pt hP hN hP10 hS ho (by omega))
