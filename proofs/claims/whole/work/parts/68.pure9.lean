/-! ===== the pure side: the first open part is always right ===== -/
theorem gOK_of {g : Nat → Nat → Int32} {nN nP C : Nat} (hok : MNOK g nN) (hN30 : nN ≤ 30) (hP10 : nP ≤ 10) (hC : C < 1024) (f0 : FitR g nN 0) (fC : FitR g nN C) : ∀ (k s : Nat), s < 1024 → SubN s C → FitR g nN s → cnt (dif C s) 10 ≤ k → (∃ j, rch g nN nP C j s) → gOK g nN nP C k s := by
  intro k
  induction k with
  | zero =>
    intro s hs hsub fs hc hj
    by_cases e : s = C
    · exact e
    · exfalso
      obtain ⟨j, hj⟩ := hj
      cases j with
      | zero => exact e hj
      | succ j =>
        rcases hj with hj | ⟨q, hq, ho, -⟩
        · exact e hj
        · unfold mOpen at ho
          rw [Bool.and_eq_true, Bool.and_eq_true, Bool.not_eq_true'] at ho
          have := (cnt_drop (A := dif C s) (B := dif C (s ||| 2 ^ q)) (p := q) (by rw [dif_bit, ho.1, ho.2.1]; rfl) (fun i => by
            rw [dif_bit, dif_bit, or_bit]
            by_cases z : q = i
            · subst z; simp
            · simp [z, show ¬ i = q from fun z' => z z'.symm]) 10).2 (by omega)
          omega
  | succ k ih =>
    intro s hs hsub fs hc hj
    by_cases e : s = C
    · exact Or.inl e
    · obtain ⟨j, hj⟩ := hj
      cases j with
      | zero => exact absurd hj e
      | succ j =>
        have hj0 := hj
        rcases hj with hj | ⟨q, hq, ho, -⟩
        · exact absurd hj e
        · rcases fi_some (P := mOpen g nN C s) nP 0 with z | ⟨p, -, hp, hop, efi⟩
          · rw [(fi_none nP 0 (by omega)).mp z q (Nat.zero_le _) (by omega)] at ho
            cases ho
          · have hop0 := hop
            unfold mOpen at hop
            rw [Bool.and_eq_true, Bool.and_eq_true, Bool.not_eq_true', decide_eq_true_iff] at hop
            obtain ⟨hpC, hps, hpf⟩ := hop
            have hp' : p < nP := by omega
            have hd := (cnt_drop (A := dif C s) (B := dif C (s ||| 2 ^ p)) (p := p) (by rw [dif_bit, hpC, hps]; rfl) (fun i => by
              rw [dif_bit, dif_bit, or_bit]
              by_cases z : p = i
              · subst z; simp
              · simp [z, show ¬ i = p from fun z' => z z'.symm]) 10).2 (by omega)
            refine Or.inr ⟨p, hp', efi, ih (s ||| 2 ^ p) (or_lt hs (by omega)) (fun i hi => ?_) hpf (by omega) ⟨j + 1, rch_or hok hN30 hP10 hC f0 fC hp' hpC (j + 1) s hs hsub fs hpf hj0⟩⟩
            rw [or_bit, Bool.or_eq_true, decide_eq_true_iff] at hi
            rcases hi with hi | hi
            · exact hsub i hi
            · subst hi; exact hpC
theorem cnt_le9 (S : Nat) : ∀ n, cnt S n ≤ n
  | 0 => Nat.le_refl _
  | n + 1 => by
    have := cnt_le9 S n
    unfold cnt
    split <;> omega
theorem route_or {g : Nat → Nat → Int32} {nN nP C : Nat} (hok : MNOK g nN) (hN30 : nN ≤ 30) (hP10 : nP ≤ 10) (hC : C < 1024) (fC : FitR g nN C) (f0 : FitR g nN 0) : gOK g nN nP C 10 0 ∨ ¬ rch g nN nP C 10 0 := by
  by_cases h : rch g nN nP C 10 0
  · exact Or.inl (gOK_of hok hN30 hP10 hC f0 fC 10 0 (by decide) (fun i hi => by rw [Nat.zero_testBit] at hi; cases hi) f0 (cnt_le9 _ 10) ⟨10, h⟩)
  · exact Or.inr h
