/-! ===== the pure side: pieces of a set, both ways ===== -/
theorem pcN_bit (S f m : Nat) : ∀ (n p : Nat), (pcN S f m n).testBit p = (decide (p < n) && (S.testBit p && (decide (f ≤ cnt S p) && decide (cnt S p < f + m))))
  | 0, p => by simp [pcN]
  | n + 1, p => by
    unfold pcN
    by_cases e : p = n
    · subst e
      have h0 : (pcN S f m p).testBit p = false := by rw [pcN_bit S f m p p]; simp
      split
      next q => rw [or_bit, h0, q]; simp
      next q =>
        rw [h0]
        have q' := Bool.eq_false_iff.mpr q
        rw [q']
        simp
    · have hd : decide (p < n + 1) = decide (p < n) := decide_eq_decide.mpr (by omega)
      split
      · rw [or_bit, pcN_bit S f m n p, hd, decide_eq_false (show ¬ n = p from fun z => e z.symm), Bool.or_false]
      · rw [pcN_bit S f m n p, hd]
set_option maxRecDepth 100000 in
theorem wl_pc : ∀ f, f < 12 → ∀ S, S < 1024 → wl f S = pcN S f 1024 10 := by decide +kernel
theorem wl_add : ∀ (f m S : Nat), wl (f + m) S = wl m (wl f S)
  | 0, m, S => by rw [Nat.zero_add]; rfl
  | f + 1, m, S => by
    rw [show f + 1 + m = (f + m) + 1 by omega]
    show wl (f + m) (dropLow S) = wl m (wl f (dropLow S))
    exact wl_add f m (dropLow S)
theorem piece_eq {S f m : Nat} (hS : S < 1024) (h : f + m < 12) : dif (wl f S) (wl m (wl f S)) = pcN S f m 10 := by
  rw [← wl_add, wl_pc f (by omega) S hS, wl_pc (f + m) h S hS]
  apply Nat.eq_of_testBit_eq
  intro i
  rw [dif_bit, pcN_bit, pcN_bit, pcN_bit]
  by_cases hi : i < 10
  · have hc := cnt_le S i
    cases hs : S.testBit i
    · simp
    · rw [decide_eq_true hi, decide_eq_true (show cnt S i < f + 1024 by omega), decide_eq_true (show cnt S i < f + m + 1024 by omega)]
      by_cases h1 : f ≤ cnt S i
      · by_cases h2 : f + m ≤ cnt S i
        · simp [h1, h2, show ¬ cnt S i < f + m by omega]
        · simp [h1, h2, show cnt S i < f + m by omega]
      · simp [h1]
  · simp [hi]
theorem pcN_nP {S f m nP : Nat} (hS : S < 2 ^ nP) (hP10 : nP ≤ 10) : pcN S f m nP = pcN S f m 10 := by
  apply Nat.eq_of_testBit_eq
  intro i
  rw [pcN_bit, pcN_bit]
  by_cases hi : i < nP
  · rw [decide_eq_true hi, decide_eq_true (show i < 10 by omega)]
  · have : S.testBit i = false := Nat.testBit_lt_two_pow (Nat.lt_of_lt_of_le hS (Nat.pow_le_pow_right (by decide) (by omega)))
    rw [this]
    simp
