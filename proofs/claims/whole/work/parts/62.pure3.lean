/-! ===== the pure side: sets of parts, red tests ===== -/
set_option maxRecDepth 100000 in
theorem setI_all : ∀ n, n < 11 → ∀ S, S < 2 ^ n → nI S &&& ((((1 : Int32) <<< (nI n &&& 31)) - 1) ^^^ -1) = 0 := by decide +kernel
set_option maxRecDepth 100000 in
theorem setI_in : ∀ n, n < 11 → ∀ S, S < 2 ^ n → isInB (nI S) 0 (((1 : Int32) <<< (nI n &&& 31)) - 1) = true := by decide +kernel
theorem areP_eq {g : Nat → Nat → Int32} {set : Int32} {nP : Nat} (h1 : g 0 9 = nI nP) (h2 : g 25 19 = nI nP) (hP10 : nP ≤ 10) : areP g set = mSetB g set := by
  rw [Bool.eq_iff_iff]
  constructor
  · intro h
    obtain ⟨S, hS, rfl⟩ := areP_set h1 hP10 h
    rw [mSetB, h2]
    exact setI_in nP (by omega) S hS
  · intro h
    obtain ⟨S, hS, rfl⟩ := mSetB_set h2 hP10 h
    rw [areP, h1, decide_eq_true_iff]
    exact setI_all nP (by omega) S hS
theorem dif_0 {a b : Nat} : dif a b = 0 ↔ a &&& b = a := by
  constructor
  · intro h
    apply Nat.eq_of_testBit_eq
    intro i
    have := congrArg (fun x => Nat.testBit x i) h
    simp only [dif_bit, Nat.zero_testBit] at this
    rw [Nat.testBit_and]
    cases ha : a.testBit i <;> cases hb : b.testBit i <;> simp_all
  · intro h
    apply Nat.eq_of_testBit_eq
    intro i
    have := congrArg (fun x => Nat.testBit x i) h
    simp only [Nat.testBit_and] at this
    rw [dif_bit, Nat.zero_testBit]
    cases ha : a.testBit i <;> cases hb : b.testBit i <;> simp_all
/-- the tests -/
def IvT (g : Nat → Nat → Int32) (nP nT : Nat) : Prop := ∀ i, i < nT → ∃ F : Nat, F < 2 ^ nP ∧ g 17 i = nI F ∧ g 36 i = nI F
theorem red_pt {F S : Nat} (hF : F < 1024) : decide (nI F &&& (nI S ^^^ -1) = 0) = decide (nI F &&& nI S = nI F) := by
  rw [nx_dif, nx_and]
  have hd : dif F S < 1024 := dif_lt hF
  have ha : F &&& S < 1024 := Nat.lt_of_le_of_lt Nat.and_le_left hF
  have h1 : (nI (dif F S) = 0) = (dif F S = 0) := propext (show nI (dif F S) = nI 0 ↔ dif F S = 0 from nI_eq (by omega) (by decide))
  have h2 : (nI (F &&& S) = nI F) = (F &&& S = F) := propext (nI_eq (by omega) (by omega))
  simp only [h1, h2, dif_0]
theorem pow_le_1024 {n : Nat} (h : n ≤ 10) : 2 ^ n ≤ 1024 := Nat.pow_le_pow_right (n := 2) (by decide) h
theorem red_eq {g : Nat → Nat → Int32} {nP nT S : Nat} (hT : IvT g nP nT) (hP10 : nP ≤ 10) : fi (pRed (g 17) (nI S)) nT 0 = mRed g nT (nI S) := by
  unfold mRed
  refine fi_congr nT 0 (fun j _ hj => ?_)
  obtain ⟨F, hF, e1, e2⟩ := hT j (by omega)
  have := pow_le_1024 hP10
  rw [pRed, pMR, e1, e2]
  exact red_pt (by omega)
theorem goes_eq {g : Nat → Nat → Int32} {nP nN nT S : Nat} (hP : IvP g nP) (hN : IvN g nP nN) (hT : IvT g nP nT) (hP10 : nP ≤ 10) (hS : S < 2 ^ 31) (ho : OfS g nP S) : goesB (wTo g nN) nN nT (nI S) = (decide (mBrk g nN (nI S) = -1) && decide (mRed g nT (nI S) = -1)) := by
  unfold goesB
  rw [show fi (pBrk (wTo g nN 14) (wTo g nN 15) (nI S)) nN 0 = mBrk g nN (nI S) from brk_eq hP hN hP10 hS ho, show wTo g nN 17 = g 17 from rfl, red_eq hT hP10]
