/-! ===== the pure side: weighed masks are the needs ===== -/
theorem and_pow (S p : Nat) : S &&& 2 ^ p = if S.testBit p = true then 2 ^ p else 0 := by
  apply Nat.eq_of_testBit_eq
  intro i
  rw [Nat.testBit_and, Nat.testBit_two_pow]
  by_cases e : p = i
  · subst e
    cases h : S.testBit p
    · simp
    · simp
  · cases h : S.testBit p
    · simp [e]
    · simp [e, Nat.testBit_two_pow]
theorem pow_ne0 (p : Nat) : (2 : Nat) ^ p ≠ 0 := Nat.ne_of_gt (Nat.pow_pos (by decide))
theorem pow_or_ne {p o : Nat} (h : p ≠ o) : (2 : Nat) ^ p ||| 2 ^ o ≠ 2 ^ p := by
  intro z
  have := congrArg (fun x => Nat.testBit x o) z
  simp [Nat.testBit_or, Nat.testBit_two_pow, h] at this
theorem pow_ne {p o : Nat} (h : p ≠ o) : (2 : Nat) ^ p ≠ 2 ^ o := by
  intro z
  have := congrArg (fun x => Nat.testBit x o) z
  simp [Nat.testBit_two_pow, h] at this
theorem wk_iff (S : Nat) {p o : Nat} (hpo : p ≠ o) (b6 b7 b8 b9 : Bool) : decide (S &&& wAsk p o b6 b7 b8 b9 = wBrk p o b6 b7 b8 b9) = ((if S.testBit p = true then b7 else b6) && !(if S.testBit o = true then b9 else b8)) := by
  have n1 := pow_ne0 p
  have n2 := pow_ne0 o
  have n3 := pow_or_ne hpo
  have n4 : (2 : Nat) ^ p ||| 2 ^ o ≠ 2 ^ o := by rw [Nat.or_comm]; exact pow_or_ne (fun z => hpo z.symm)
  have n5 := pow_ne hpo
  have n6 := pow_ne (fun z => hpo z.symm : o ≠ p)
  have n7 : (2 : Nat) ^ p ||| 2 ^ o ≠ 0 := fun z => n1 (Nat.eq_zero_of_le_zero (z ▸ Nat.left_le_or))
  have hp := and_pow S p
  have ho := and_pow S o
  have hq : S &&& (2 ^ p ||| 2 ^ o) = (S &&& 2 ^ p) ||| (S &&& 2 ^ o) := Nat.and_or_distrib_left _ _ _
  cases hsp : S.testBit p <;> cases hso : S.testBit o <;> rw [hsp] at hp <;> rw [hso] at ho <;> rw [hp, ho] at hq <;> cases b6 <;> cases b7 <;> cases b8 <;> cases b9 <;> simp [wAsk, wBrk, hp, ho, hq, n1, n2, n3, n4, n5, n6, n7, n1.symm, n2.symm, n3.symm, n4.symm, n5.symm, n6.symm, n7.symm]
