/-! ===== the pure side: the hunt is the reference's, and ends ===== -/
theorem redB_eq {g : Nat → Nat → Int32} {nP nT : Nat} (hT : IvT g nP nT) (hP10 : nP ≤ 10) (S : Nat) : redB g nT S = mRedB g nT S := by
  unfold redB mRedB
  rw [red_eq hT hP10]
theorem pcF_step (S i n : Nat) : pcF S (i + 1) n = pcF S i n + pcM S i n := by
  unfold pcF pcM
  rw [Nat.succ_mul]
  generalize popc S / n = q
  generalize popc S % n = r
  generalize i * q = x
  by_cases h : i < r
  · rw [if_neg (show ¬ r < i + 1 by omega), if_neg (show ¬ r < i by omega), if_pos h]
    omega
  · rw [if_pos (show r < i + 1 by omega), if_neg h]
    split <;> omega
theorem pcF_le (S : Nat) {i n : Nat} (h : i ≤ n) : pcF S i n ≤ popc S := by
  unfold pcF
  have h1 : i * (popc S / n) ≤ n * (popc S / n) := Nat.mul_le_mul_right _ h
  have h2 := Nat.div_add_mod (popc S) n
  split <;> omega
theorem mPiece_eq {S nP i n : Nat} (hS : S < 2 ^ nP) (hP10 : nP ≤ 10) (hi : i < n) : dif (wl (pcF S i n) S) (wl (pcM S i n) (wl (pcF S i n) S)) = mPiece nP S i n := by
  have hS' : S < 1024 := Nat.lt_of_lt_of_le hS (pow_le_1024 hP10)
  have h1 := pcF_le S (i := i + 1) (n := n) hi
  rw [pcF_step] at h1
  have h2 := popc_le S hS'
  rw [piece_eq hS' (by omega), mPiece, pcN_nP hS hP10]
theorem wpL_eq {g : Nat → Nat → Int32} {nP nT S n : Nat} (hT : IvT g nP nT) (hP10 : nP ≤ 10) (hS : S < 2 ^ nP) : ∀ (k i c : Nat), i + k = n → wpL g nT S n k i (wl (pcF S i n) S) c = mwpL g nT nP S n k i c
  | 0, _, _, _ => rfl
  | k + 1, i, c, h => by
    unfold wpL mwpL
    rw [show (popc S / n + if i < popc S % n then 1 else 0) = pcM S i n from rfl, mPiece_eq hS hP10 (by omega), redB_eq hT hP10, ← wl_add, ← pcF_step, wpL_eq hT hP10 hS k (i + 1) (c + 1) (by omega)]
theorem mwpL_some {g : Nat → Nat → Int32} {nT nP S n : Nat} : ∀ (k i c S2 : Nat), (mwpL g nT nP S n k i c).1 = some S2 → ∃ j, i ≤ j ∧ j < i + k ∧ S2 = dif S (mPiece nP S j n)
  | 0, _, _, _, h => by cases h
  | k + 1, i, c, S2, h => by
    unfold mwpL at h
    split at h
    · cases h
      exact ⟨i, Nat.le_refl _, by omega, rfl⟩
    · obtain ⟨j, h1, h2, h3⟩ := mwpL_some k (i + 1) (c + 1) S2 h
      exact ⟨j, by omega, by omega, h3⟩
theorem dif_lt2 {a b n : Nat} (ha : a < 2 ^ n) : dif a b < 2 ^ n := Nat.xor_lt_two_pow ha (Nat.lt_of_le_of_lt Nat.and_le_left ha)
theorem pcF_0 (S n : Nat) : pcF S 0 n = 0 := by
  unfold pcF
  rw [Nat.zero_mul]
  split <;> omega
theorem foL_eq {g : Nat → Nat → Int32} {nP nT : Nat} (hT : IvT g nP nT) (hP10 : nP ≤ 10) : ∀ (k S n : Nat) (ov : Bool) (c : Nat), S < 2 ^ nP → foL g nT k S n ov c = mfoL g nT nP k S n ov c
  | 0, _, _, _, _, _ => rfl
  | k + 1, S, n, ov, c, hS => by
    unfold foL mfoL
    have h := wpL_eq hT hP10 hS n 0 c (Nat.zero_add n)
    rw [pcF_0] at h
    rw [show wpL g nT S n n 0 S c = wpL g nT S n n 0 (wl 0 S) c from rfl, h]
    split
    · rfl
    · split
      · rfl
      · cases e : mwpL g nT nP S n n 0 c with
        | mk o c2 =>
          cases o with
          | none => exact foL_eq hT hP10 k S _ _ c2 hS
          | some S2 =>
            obtain ⟨j, _, _, hj⟩ := mwpL_some n 0 c S2 (by rw [e])
            exact foL_eq hT hP10 k S2 _ _ c2 (by rw [hj]; exact dif_lt2 hS)
theorem hunt_eq {g : Nat → Nat → Int32} {nP nT S : Nat} (hT : IvT g nP nT) (hP10 : nP ≤ 10) (hS : S < 2 ^ nP) : hunt g nT S = mHunt g nT nP S := by
  unfold hunt mHunt
  rw [redB_eq hT hP10, foL_eq hT hP10 1000 S 2 false 1 hS]
theorem cnt_at (S : Nat) : ∀ (k f : Nat), f < cnt S k → ∃ p, p < k ∧ S.testBit p = true ∧ cnt S p = f
  | 0, f, h => absurd h (Nat.not_lt_zero _)
  | k + 1, f, h => by
    by_cases h2 : f < cnt S k
    · obtain ⟨p, h3, h4⟩ := cnt_at S k f h2
      exact ⟨p, by omega, h4⟩
    · unfold cnt at h
      by_cases hb : S.testBit k = true
      · rw [if_pos hb] at h
        exact ⟨k, Nat.lt_succ_self k, hb, by omega⟩
      · rw [if_neg hb] at h
        exact absurd h h2
theorem cnt_sub {A B : Nat} (h : ∀ i, A.testBit i = true → B.testBit i = true) : ∀ n, cnt A n ≤ cnt B n ∧ (∀ p, p < n → A.testBit p = false → B.testBit p = true → cnt A n < cnt B n)
  | 0 => ⟨Nat.le_refl _, fun p hp => absurd hp (Nat.not_lt_zero _)⟩
  | n + 1 => by
    obtain ⟨h1, h2⟩ := cnt_sub h n
    unfold cnt
    have h3 : (if A.testBit n = true then 1 else 0) ≤ (if B.testBit n = true then 1 else 0) := by
      by_cases q : A.testBit n = true
      · rw [if_pos q, if_pos (h n q)]; exact Nat.le_refl _
      · rw [if_neg q]; exact Nat.zero_le _
    refine ⟨Nat.add_le_add h1 h3, fun p hp ha hb => ?_⟩
    by_cases e : p = n
    · subst e
      rw [if_neg (by rw [ha]; decide), if_pos hb]
      omega
    · have := h2 p (by omega) ha hb
      omega
theorem popc_dif {S P : Nat} (hS : S < 1024) (h : dif S P ≠ S) : popc (dif S P) < popc S := by
  have hs : SubN (dif S P) S := fun i hi => by
    rw [dif_bit] at hi
    cases hb : S.testBit i
    · rw [hb] at hi; cases hi
    · rfl
  obtain ⟨p, h1, h2, h3⟩ := sub_ne hS hs h
  exact (cnt_sub hs 10).2 p h1 h3 h2
theorem mPiece_ne {S nP j n : Nat} (hS : S < 2 ^ nP) (hP10 : nP ≤ 10) (hn : n ≤ popc S) (hj : j < n) : dif S (mPiece nP S j n) ≠ S := by
  intro h
  have hq : 1 ≤ popc S / n := (Nat.le_div_iff_mul_le (by omega)).mpr (by omega)
  have hm : 1 ≤ pcM S j n := Nat.le_trans hq (Nat.le_add_right _ _)
  have h1 := pcF_le S (i := j + 1) (n := n) hj
  rw [pcF_step] at h1
  obtain ⟨p, hp, hb, hc⟩ := cnt_at S 10 (pcF S j n) (by show pcF S j n < popc S; omega)
  have h2 := congrArg (fun x => Nat.testBit x p) h
  simp only [dif_bit, mPiece, pcN_bit, hb, hc, Bool.true_and] at h2
  have hpn : p < nP := Nat.lt_of_not_le (fun z => by
    rw [Nat.testBit_lt_two_pow (Nat.lt_of_lt_of_le hS (Nat.pow_le_pow_right (by decide) z))] at hb
    cases hb)
  rw [decide_eq_true hpn, decide_eq_true (Nat.le_refl _), decide_eq_true (show pcF S j n < pcF S j n + pcM S j n by omega)] at h2
  cases h2
theorem stp_mu {g : Nat → Nat → Int32} {nP nT : Nat} (hP10 : nP ≤ 10) : ∀ (k S n : Nat) (ov : Bool) (c : Nat), S < 2 ^ nP → 2 ≤ n → n ≤ 10 → popc S * 20 + ((popc S - n) + (n - popc S)) ≤ k → mStp g nT nP k S n ov c
  | 0, S, n, ov, c, _, _, _, h => Or.inr (show popc S ≤ 1 by omega)
  | k + 1, S, n, ov, c, hS, hn2, hn, h => by
    unfold mStp
    have hS' : S < 1024 := Nat.lt_of_lt_of_le hS (pow_le_1024 hP10)
    have hp10 := popc_le S hS'
    by_cases h1 : popc S ≤ 1
    · exact Or.inr (Or.inl h1)
    · refine Or.inr (Or.inr ?_)
      cases e : mwpL g nT nP S n n 0 c with
      | mk o c2 =>
        cases o with
        | some S2 =>
          obtain ⟨j, _, hj, hj2⟩ := mwpL_some n 0 c S2 (by rw [e])
          have hS2 : S2 < 2 ^ nP := by rw [hj2]; exact dif_lt2 hS
          have hn' : 2 ≤ (if n - 1 < 2 then 2 else n - 1) ∧ (if n - 1 < 2 then 2 else n - 1) ≤ 10 := by split <;> omega
          refine stp_mu hP10 k S2 _ false c2 hS2 hn'.1 hn'.2 ?_
          by_cases hq : S2 = S
          · have hgt : popc S < n := Nat.lt_of_not_le (fun z => mPiece_ne hS hP10 z (by omega) (hj2.symm.trans hq))
            rw [hq]
            split <;> omega
          · have := popc_dif hS' (P := mPiece nP S j n) (by rw [← hj2]; exact hq)
            rw [← hj2] at this
            omega
        | none =>
          by_cases hov : popc S ≤ n
          · show mStp g nT nP k S _ (decide (popc S ≤ n)) c2
            rw [decide_eq_true hov]
            cases k with
            | zero => exact Or.inl rfl
            | succ k => exact Or.inl rfl
          · have hn' : 2 ≤ (if popc S < n * 2 then popc S else n * 2) ∧ (if popc S < n * 2 then popc S else n * 2) ≤ 10 ∧ n < (if popc S < n * 2 then popc S else n * 2) ∧ (if popc S < n * 2 then popc S else n * 2) ≤ popc S := by split <;> omega
            exact stp_mu hP10 k S _ _ c2 hS hn'.1 hn'.2.1 (by omega)
theorem stp_all {g : Nat → Nat → Int32} {nP nT : Nat} (hP10 : nP ≤ 10) (S : Nat) (hS : S < 2 ^ nP) : mStp g nT nP 1000 S 2 false 1 := by
  have h := popc_le S (Nat.lt_of_lt_of_le hS (pow_le_1024 hP10))
  exact stp_mu hP10 1000 S 2 false 1 hS (Nat.le_refl _) (by decide) (by omega)
