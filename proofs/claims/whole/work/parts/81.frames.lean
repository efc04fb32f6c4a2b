/-! ===== a call of the desk leaves the reference's places ===== -/
def KR (g g' : Nat → Nat → Int32) : Prop := ∀ k, 25 ≤ k → g' k = g k
section KRS
variable {g g' g2 : Nat → Nat → Int32} {T : Nat → TR} {n nP nN nT nW C : Nat}
theorem KR.rf (g : Nat → Nat → Int32) : KR g g := fun _ _ => rfl
theorem KR.tr (h : KR g g') (h2 : KR g' g2) : KR g g2 := fun k hk => (h2 k hk).trans (h k hk)
theorem KR.up {i : Nat} {f : Nat → Int32} (hi : i < 25) (h : KR g g') : KR g (va_up g' i f) := fun k hk => by rw [va_up_ne _ _ (by omega)]; exact h k hk
theorem KR.put {b : Nat} (hb : b ≤ 20) (p v u : Int32) (h : KR g g') : KR g (put10 g' b p v u) := fun k hk => by rw [put10_low g' b p v u k (by omega) (by omega)]; exact h k hk
theorem KR.wt (i : Nat) (h : KR g g') : KR g (wTo g' i) := fun k hk => by rw [wTo_k (by omega) (by omega)]; exact h k hk
theorem KR.cho (i S : Nat) (h : KR g g') : KR g (chooseG g' i S) := fun k hk => by rw [chG_k (by omega) (by omega) (by omega) (by omega) (by omega)]; exact h k hk
theorem KR.ends (i : Nat) (h : KR g g') : KR g (endG g' i) := fun k hk => by rw [endG_k g' k (by omega) (by omega) (by omega) (by omega) (by omega) i]; exact h k hk
theorem KR.drp (i : Nat) (h : KR g g') : KR g (drpG g' i) := fun k hk => by rw [drpG_k g' k (by omega) (by omega) i]; exact h k hk
theorem kr_part (v : Int32) : KR g (dPart g v).2 := by
  rw [dPart_b]
  split
  · exact (KR.rf g).up (by decide) |>.up (by decide)
  · exact KR.rf g
theorem opn_le (g : Nat → Nat → Int32) : opn g ≤ 20 := by
  unfold opn
  split <;> decide
theorem kr_offer (p v u : Int32) : KR g (dOffer g p v u).2 := by
  unfold dOffer
  split
  · split
    · split
      · split
        · exact KR.rf g
        · exact (KR.rf g).put (opn_le g) _ _ _
      · exact KR.rf g
    · exact KR.rf g
  · exact KR.rf g
theorem kr_withdraw (p : Int32) : KR g (dWithdraw g p).2 := by
  unfold dWithdraw
  split
  · split
    · exact KR.rf g
    · exact (KR.rf g).put (opn_le g) _ _ _
  · exact KR.rf g
theorem kr_need (p v o lo hi : Int32) : KR g (dNeed g p v o lo hi).2 := by
  rw [dNeed_b]
  split
  · show KR g (if g 8 7 < 30 then addNeed g p v o lo hi else g)
    split
    · unfold addNeed
      exact (((((((KR.rf g).up (by decide)).up (by decide)).up (by decide)).up (by decide)).up (by decide)).up (by decide))
    · exact KR.rf g
  · exact KR.rf g
theorem kr_test (set : Int32) : KR g (dTest g set).2 := by
  rw [dTest_b]
  split
  · show KR g (if g 16 1 < 12 then addTest g set else g)
    split
    · unfold addTest
      exact ((KR.rf g).up (by decide)).up (by decide)
    · exact KR.rf g
  · exact KR.rf g
theorem kr_fits (i : Nat) (set : Int32) : KR g (dFits g i set).2 := by
  unfold dFits
  split
  · exact (KR.rf g).wt i
  · exact KR.rf g
theorem kr_cut (i j : Nat) : KR g (dCut g i j).2 := by
  unfold dCut
  split
  · exact KR.rf g
  · split
    · exact (KR.rf g).wt i
    · exact ((KR.rf g).wt i).cho i _
theorem kr_why (i j : Nat) (p : Int32) : KR g (dWhy g i j p).2 := by
  unfold dWhy
  split
  · split
    · split
      · exact KR.rf g
      · split
        · exact KR.rf g
        · split <;> exact (KR.rf g).wt i
    · exact KR.rf g
  · exact KR.rf g
theorem kr_fix (i j : Nat) (p v u : Int32) : KR g (dFix g i j p v u).2 := by
  unfold dFix
  split
  · split
    · exact (((KR.rf g).put (by decide) _ _ _).wt i).cho i _
    · exact (((KR.rf g).put (by decide) _ _ _).wt i).put (by decide) _ _ _
  · exact KR.rf g
theorem kr_leave (i j : Nat) (p v u : Int32) : KR g (dLeave g i j p v u).2 := by
  unfold dLeave
  split
  · exact (((KR.rf g).put (by decide) _ _ _).wt i).put (by decide) _ _ _
  · exact KR.rf g
theorem kr_giveUp (i : Nat) : KR g (dGiveUp g i).2 := by
  unfold dGiveUp
  split
  · exact (KR.rf g).ends i
  · exact KR.rf g
theorem kr_oneWay (i : Nat) (p v is : Int32) : KR g (dOneWay g i p v is).2 := by
  unfold dOneWay
  split
  · split
    · split
      · dsimp only
        split
        · exact KR.rf g
        · unfold delWay
          exact (((KR.rf g).up (by decide)).up (by decide)).up (by decide)
      · dsimp only
        split
        · exact KR.rf g
        · split
          · unfold addWay
            exact (((KR.rf g).up (by decide)).up (by decide)).up (by decide)
          · exact KR.rf g
    · exact KR.rf g
  · exact KR.rf g
theorem kr_blame (i : Nat) (set : Int32) : KR g (dBlame g i set).2 := by
  unfold dBlame
  split
  · exact (KR.rf g).up (by decide)
  · exact KR.rf g
theorem kr_runs (i : Nat) (set : Int32) : KR g (dRuns g i set).2 := by
  unfold dRuns
  split
  · exact (KR.rf g).up (by decide)
  · exact KR.rf g
theorem kr_count (i j : Nat) (wh : Int32) : KR g (dCount g T i j wh).2 := by
  unfold dCount
  by_cases q0 : wh = 0
  · rw [if_pos q0]; exact KR.rf g
  rw [if_neg q0]
  by_cases q1 : wh = 1
  · rw [if_pos q1]; exact KR.rf g
  rw [if_neg q1]
  by_cases q2 : wh = 2
  · rw [if_pos q2]; exact KR.rf g
  rw [if_neg q2]
  by_cases q3 : wh = 3
  · rw [if_pos q3]; exact KR.rf g
  rw [if_neg q3]
  by_cases q4 : wh = 4
  · rw [if_pos q4]; exact KR.rf g
  rw [if_neg q4]
  by_cases q5 : wh = 5
  · rw [if_pos q5]; exact KR.rf g
  rw [if_neg q5]
  by_cases q6 : wh = 6
  · rw [if_pos q6]; exact KR.rf g
  rw [if_neg q6]
  by_cases q7 : wh = 7
  · rw [if_pos q7]
    split <;> exact KR.rf g
  rw [if_neg q7]
  by_cases q8 : wh = 8
  · rw [if_pos q8]
    split <;> exact (KR.rf g).wt i
  rw [if_neg q8]
  exact KR.rf g
theorem kr_back (i j k l : Nat) : KR g (dBack g T i j k l).2.1 := by
  unfold dBack
  split
  · exact KR.rf g
  · split
    · exact KR.rf g
    · unfold dBackT
      split
      · split
        · unfold dBk1
          exact (((KR.rf g).up (by decide)).wt k).drp j
        · unfold dBk1 dBk2
          exact (((KR.rf g).up (by decide)).wt k).up (by decide)
      · exact KR.rf g
theorem kr_snd (i : Nat) : KR g (dSndG g i) := by
  unfold dSndG alG
  refine KR.ends i (KR.up (by decide) (KR.up (by decide) (fun k hk => ?_)))
  exact snL_k g k (by omega) (by omega) (by omega) i
/-- what the reference's contracts ask -/
def RF (g : Nat → Nat → Int32) (n nP nN nT nW C : Nat) : Prop := (g 25 19 = nI nP ∧ g 25 20 = nI nN ∧ g 25 21 = nI nT ∧ g 25 22 = nI nW ∧ g 25 23 = nI n ∧ g 25 24 = nI C) ∧ MNOK g nN ∧ MCOK g ∧ (∀ t, t < n → ∃ S, S < 1024 ∧ g 40 t = nI S) ∧ ∀ t, t < n → ∃ k, k ≤ 10 ∧ g 39 t = nI k
theorem Iv.rfs (h : Iv g T n nP nN nT nW C) (k : KR g g') : RF g' n nP nN nT nW C := by
  have hP10 := h.1.1.2.2
  unfold RF MNOK MCOK
  rw [k 25 (by decide), k 31 (by decide), k 33 (by decide), k 39 (by decide), k 40 (by decide)]
  refine ⟨⟨h.1.1.2.1, h.1.2.1.2.1, h.1.2.2.1.2.1, h.1.2.2.2.1.2.1, h.1.2.2.2.2.2.1, h.2.2.2.1.2.1⟩, h.2.1.2.1.mnok hP10, h.mcok, fun t ht => ?_, fun t ht => ?_⟩
  · exact ⟨ldN (T t), (h.tok t ht).2.1, (h.ld ht).2.2⟩
  · have := h.2.2.2.2.1 t ht
    exact ⟨(T t).1, by omega, this.2.1⟩
end KRS
