/-! ===== the pure side: open parts, both ways ===== -/
theorem or_same_iff {s p : Nat} : s ||| 2 ^ p = s ↔ s.testBit p = true := by
  constructor
  · intro h
    have := congrArg (fun x => Nat.testBit x p) h
    simp only [or_bit, decide_true, Bool.or_true] at this
    exact this.symm
  · exact or_same
theorem pOpen_eq {g : Nat → Nat → Int32} {nP nN C s p : Nat} (hP : IvP g nP) (hN : IvN g nP nN) (hP10 : nP ≤ 10) (hs : s < 1024) (ho : OfS g nP C) (hsub : SubN s C) (hp : p < 10) : pOpen (wTo g nN) nN C s p = mOpen g nN C s p := by
  unfold pOpen mOpen
  cases hc : C.testBit p
  · rfl
  · have hof : OfS g nP (s ||| 2 ^ p) := fun i hi => by
      rw [or_bit, Bool.or_eq_true, decide_eq_true_iff] at hi
      rcases hi with hi | hi
      · exact ho i (hsub i hi)
      · subst hi; exact ho p hc
    have hl : s ||| 2 ^ p < 1024 := or_lt hs hp
    rw [show fi (pBrk (wTo g nN 14) (wTo g nN 15) (nI (s ||| 2 ^ p))) nN 0 = mBrk g nN (nI (s ||| 2 ^ p)) from brk_eq hP hN hP10 (by omega) hof]
    cases hb : s.testBit p
    · rw [decide_eq_false (fun z => by rw [or_same_iff.mp z] at hb; cases hb)]
    · rw [decide_eq_true (or_same hb)]
theorem fi_10 {P : Nat → Bool} {n : Nat} (hn : n ≤ 10) (h : ∀ p, n ≤ p → P p = false) : fi P 10 0 = fi P n 0 := by
  rcases fi_some (P := P) n 0 with z | ⟨p, -, hp, hop, efi⟩
  · rw [z]
    rw [fi_none 10 0 (by decide)]
    intro j _ _
    by_cases q : j < n
    · exact (fi_none n 0 (by omega)).mp z j (Nat.zero_le _) (by omega)
    · exact h j (by omega)
  · rcases fi_some (P := P) 10 0 with z | ⟨p', -, hp', hop', efi'⟩
    · rw [(fi_none 10 0 (by decide)).mp z p (Nat.zero_le _) (by omega)] at hop
      cases hop
    · rw [efi, efi']
      have hlt : p' < n := Nat.lt_of_not_le (fun z => by rw [h p' z] at hop'; cases hop')
      have key : ∀ (m k a b : Nat), k + m < 2 ^ 31 → fi P m k = nI a → k ≤ b → b < k + m → P b = true → a < 2 ^ 31 → a ≤ b := by
        intro m
        induction m with
        | zero => intro k a b _ _ h1 h2; omega
        | succ m ih =>
          intro k a b hk e h1 h2 hb ha
          unfold fi at e
          by_cases c : P k = true
          · rw [if_pos c] at e
            have := (nI_eq (by omega) ha).mp e
            omega
          · rw [if_neg c] at e
            by_cases q : b = k
            · subst q
              exact absurd hb c
            · exact ih (k + 1) a b (by omega) e (by omega) (by omega) hb ha
      have a1 := key n 0 p p' (by omega) efi (Nat.zero_le _) (by omega) hop' (by omega)
      have a2 := key 10 0 p' p (by decide) efi' (Nat.zero_le _) (by omega) hop (by omega)
      rw [show p' = p by omega]
