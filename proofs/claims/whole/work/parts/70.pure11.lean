/-! ===== the pure side: the desk's route is the reference's row ===== -/
theorem sub_ne {s C : Nat} (hC : C < 1024) (hsub : SubN s C) (h : s ≠ C) : ∃ p, p < 10 ∧ C.testBit p = true ∧ s.testBit p = false := by
  apply Classical.byContradiction
  intro hn
  apply h
  apply Nat.eq_of_testBit_eq
  intro i
  cases hc : C.testBit i
  · cases hs : s.testBit i
    · rfl
    · rw [hsub i hs] at hc
      cases hc
  · cases hs : s.testBit i
    · exfalso
      refine hn ⟨i, Nat.lt_of_not_le (fun z => ?_), hc, hs⟩
      rw [Nat.testBit_lt_two_pow (Nat.lt_of_lt_of_le hC (show 2 ^ 10 ≤ 2 ^ i from Nat.pow_le_pow_right (by decide) z))] at hc
      cases hc
    · rfl
theorem cnt_dif {C s p : Nat} (hp : p < 10) (hc : C.testBit p = true) (hs : s.testBit p = false) : cnt (dif C (s ||| 2 ^ p)) 10 + 1 = cnt (dif C s) 10 := (cnt_drop (A := dif C s) (B := dif C (s ||| 2 ^ p)) (p := p) (by rw [dif_bit, hc, hs]; rfl) (fun i => by
  rw [dif_bit, dif_bit, or_bit]
  by_cases z : p = i
  · subst z; simp
  · simp [z, show ¬ i = p from fun z' => z z'.symm]) 10).2 hp
theorem cnt_same (C : Nat) : cnt (dif C C) 10 = 0 := by
  rw [dif_0.mpr (Nat.and_self C)]
  decide
theorem plan_row {g : Nat → Nat → Int32} {nP nN C sz : Nat} (hP : IvP g nP) (hN : IvN g nP nN) (hP10 : nP ≤ 10) (hC : C < 1024) (ho : OfS g nP C) : ∀ (k i s m : Nat) (f : Nat → Int32), s < 1024 → SubN s C → i + cnt (dif C s) 10 = sz → cnt (dif C s) 10 < k → cnt (dif C s) 10 ≤ m → (gOK g nN nP C m s → planL (wTo g nN) nN C sz k i f (some s) = ((rowL g nN nP C m s i f).1, some C) ∧ (rowL g nN nP C m s i f).2 = sz) ∧ (¬ gOK g nN nP C m s → (planL (wTo g nN) nN C sz k i f (some s)).2 = none) := by
  intro k
  induction k with
  | zero => intro i s m f _ _ _ h; exact absurd h (Nat.not_lt_zero _)
  | succ k ih =>
    intro i s m f hs hsub hi hk hm
    by_cases e : s = C
    · subst e
      rw [cnt_same, Nat.add_zero] at hi
      subst hi
      have hr : rowL g nN nP s m s i f = (f, i) := by
        cases m with
        | zero => rfl
        | succ m => unfold rowL; rw [if_pos rfl]
      have hg : gOK g nN nP s m s := by
        cases m with
        | zero => rfl
        | succ m => exact Or.inl rfl
      refine ⟨fun _ => ⟨?_, by rw [hr]⟩, fun h => absurd hg h⟩
      unfold planL
      rw [if_pos (Nat.le_refl _), hr]
    · obtain ⟨p0, h1, h2, h3⟩ := sub_ne hC hsub e
      have hd := cnt_dif h1 h2 h3
      have efi : fi (pOpen (wTo g nN) nN C s) 10 0 = fi (mOpen g nN C s) nP 0 := by
        rw [fi_congr 10 0 (fun j _ hj => pOpen_eq hP hN hP10 hs ho hsub (by omega))]
        refine fi_10 hP10 (fun p hp => ?_)
        unfold mOpen
        cases hc : C.testBit p
        · rfl
        · have := (ho p hc).1
          omega
      obtain ⟨m, rfl⟩ : ∃ m', m = m' + 1 := ⟨m - 1, by omega⟩
      unfold planL
      rw [if_neg (by omega), efi]
      by_cases q : fi (mOpen g nN C s) nP 0 = -1
      · rw [if_pos q]
        refine ⟨fun h => ?_, fun _ => rfl⟩
        rcases h with h | ⟨p, hp, h, -⟩
        · exact absurd h e
        · rw [h] at q
          exact absurd q (nI_ne_m1 (by omega))
      · rw [if_neg q]
        rcases fi_some (P := mOpen g nN C s) nP 0 with z | ⟨p, -, hp, hop, ep⟩
        · exact absurd z q
        · rw [Nat.zero_add] at hp
          unfold mOpen at hop
          rw [Bool.and_eq_true, Bool.and_eq_true, Bool.not_eq_true', decide_eq_true_iff] at hop
          obtain ⟨hpC, hps, hpf⟩ := hop
          have hd2 := cnt_dif (C := C) (s := s) (p := p) (by omega) hpC hps
          have hi2 := ih (i + 1) (s ||| 2 ^ p) m (upd f i (nI p)) (or_lt hs (by omega)) (fun j hj => by
            rw [or_bit, Bool.or_eq_true, decide_eq_true_iff] at hj
            rcases hj with hj | hj
            · exact hsub j hj
            · subst hj; exact hpC) (by omega) (by omega) (by omega)
          have hr : rowL g nN nP C (m + 1) s i f = rowL g nN nP C m (s ||| 2 ^ p) (i + 1) (upd f i (nI p)) := by
            rw [rowL, if_neg e, ep, nI_clamp (by omega)]
          have hg : gOK g nN nP C (m + 1) s ↔ gOK g nN nP C m (s ||| 2 ^ p) := by
            constructor
            · intro h
              rcases h with h | ⟨p', hp', h', h''⟩
              · exact absurd h e
              · rw [ep] at h'
                have := (nI_eq (by omega) (by omega)).mp h'
                subst this
                exact h''
            · intro h
              exact Or.inr ⟨p, hp, ep, h⟩
          rw [ep, nI_clamp (by omega), hr, hg]
          exact hi2
