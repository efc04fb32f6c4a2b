/-! ===== the pure side: the reference's best, and that it is the desk's greatest ===== -/
abbrev vM (g : Nat → Nat → Int32) (nP s : Nat) : Int32 := mSum g nP s
def okM (g : Nat → Nat → Int32) (nP nN nT U M s : Nat) : Bool := decide (s &&& U = U) && (decide (dif s M = 0) && mGoes g nP nN nT (nI s))
theorem nle_lt {x y : Int32} : (!decide (x ≤ y)) = decide (y < x) := by
  rw [Bool.eq_iff_iff, Bool.not_eq_true', decide_eq_false_iff_not, decide_eq_true_iff, Int32.le_iff_toInt_le, Int32.lt_iff_toInt_lt]
  omega
theorem mCand_eq {g : Nat → Nat → Int32} {nP nN nT U M s : Nat} {b : Option Nat} (hs : s < 1024) (hb : ∀ m, b = some m → m < 1024) : mCand g nP nN nT U M s b = (okM g nP nN nT U M s && betO (bwB (vM g nP)) s b) := by
  unfold mCand okM
  have e : mBet g nP s b = betO (bwB (vM g nP)) s b := by
    cases b with
    | none => rfl
    | some m =>
      show (!decide (mSum g nP s ≤ mSum g nP m) || (decide (mSum g nP s = mSum g nP m) && lowerB (nI s) (nI m))) = bwB (vM g nP) s m
      rw [nle_lt, lowerB_N hs (hb m rfl)]
      rfl
  rw [e]
  cases decide (s &&& U = U) <;> cases decide (dif s M = 0) <;> simp
theorem mbL_mx {g : Nat → Nat → Int32} {nP nN nT U M : Nat} (hP10 : nP ≤ 10) : ∀ (k s : Nat) (b : Option Nat), s + k = 2 ^ nP → (∀ m, b = some m → m < 1024) → IsMx (okM g nP nN nT U M) (bwB (vM g nP)) (fun t => t < s) b → IsMx (okM g nP nN nT U M) (bwB (vM g nP)) (fun t => t < 2 ^ nP) (mbL g nP nN nT U M k s b)
  | 0, s, b, e, _, h => by
    rw [Nat.add_zero] at e
    subst e
    exact h
  | k + 1, s, b, e, hb, h => by
    have h10 := pow_le_1024 hP10
    unfold mbL
    rw [mCand_eq (by omega) hb]
    refine mbL_mx hP10 k (s + 1) _ (by omega) (fun m hm => ?_) (mx_step (bwB_ord (vM g nP)) (fun t ht => by omega) h (fun z => by omega) (fun t => by omega))
    split at hm
    · cases hm
      omega
    · exact hb m hm
theorem mBest_mx {g : Nat → Nat → Int32} {nP nN nT U M : Nat} (hP10 : nP ≤ 10) : IsMx (okM g nP nN nT U M) (bwB (vM g nP)) (fun t => t < 2 ^ nP) (mBest g nP nN nT U M) := by
  unfold mBest
  exact mbL_mx hP10 (2 ^ nP) 0 none (Nat.zero_add _) (fun m e => (by cases e)) ⟨fun m e => (by cases e), fun _ s hs => absurd hs (Nat.not_lt_zero _)⟩
theorem IsMx.conv {ok ok' : Nat → Bool} {B B' : Nat → Nat → Bool} {D : Nat → Prop} {b : Option Nat} (h : IsMx ok B D b) (h1 : ∀ s, D s → ok s = ok' s) (h2 : ∀ m s, D m → D s → ok m = true → ok s = true → B m s = B' m s) : IsMx ok' B' D b := by
  refine ⟨fun m e => ?_, fun e s hs => by rw [← h1 s hs]; exact h.2 e s hs⟩
  obtain ⟨k1, k2, k3⟩ := h.1 m e
  refine ⟨k1, by rw [← h1 m k1]; exact k2, fun s hs ho hne => ?_⟩
  rw [← h1 s hs] at ho
  rw [← h2 m s k1 hs k2 ho]
  exact k3 s hs ho hne
theorem maskN_bit (f : Nat → Int32) : ∀ (n p : Nat), (maskN f n).testBit p = (decide (p < n) && !decide (f p = -1))
  | 0, p => by simp [maskN]
  | n + 1, p => by
    unfold maskN
    by_cases e : p = n
    · subst e
      have h0 : (maskN f p).testBit p = false := by rw [maskN_bit f p p]; simp
      split
      next q => rw [h0]; simp [q]
      next q => rw [Nat.testBit_or, h0]; simp [Nat.testBit_two_pow, q]
    · have hd : decide (p < n + 1) = decide (p < n) := decide_eq_decide.mpr (by omega)
      split
      · rw [maskN_bit f n p, hd]
      · rw [Nat.testBit_or, maskN_bit f n p, hd, Nat.testBit_two_pow]
        simp [show ¬ n = p from fun z => e z.symm]
theorem sumI_top {f : Nat → Int32} {s n : Nat} (h : s < 2 ^ n) : ∀ j, sumI f s (n + j) = sumI f s n
  | 0 => rfl
  | j + 1 => by
    have hb : s.testBit (n + j) = false := Nat.testBit_lt_two_pow (Nat.lt_of_lt_of_le h (Nat.pow_le_pow_right (by decide) (Nat.le_add_right n j)))
    have e : sumI f s (n + (j + 1)) = if s.testBit (n + j) = true then sumI f s (n + j) + f (n + j) else sumI f s (n + j) := rfl
    rw [e, hb, if_neg (by decide)]
    exact sumI_top h j
theorem sumI_congr {f f' : Nat → Int32} {s : Nat} : ∀ n, (∀ p, p < n → s.testBit p = true → f p = f' p) → sumI f s n = sumI f' s n
  | 0, _ => rfl
  | n + 1, h => by
    unfold sumI
    rw [sumI_congr n (fun p hp => h p (by omega))]
    by_cases q : s.testBit n = true
    · rw [if_pos q, if_pos q, h n (by omega) q]
    · rw [if_neg q, if_neg q]
/-- the worths of what is offered -/
def IvU (g : Nat → Nat → Int32) (nP : Nat) : Prop := ∀ p, p < nP → ¬ g 3 p = -1 → (∃ u : Nat, u ≤ 1000 ∧ g 4 p = nI u) ∧ g 4 p = g 28 p
theorem best_eq {g : Nat → Nat → Int32} {nP nN nT U M : Nat} (hP : IvP g nP) (hN : IvN g nP nN) (hT : IvT g nP nT) (hU : IvU g nP) (hP10 : nP ≤ 10) (hM : M < 2 ^ nP) (ho : OfS g nP M) : grt (wTo g nN) nN nT M U = mBest g nP nN nT U M := by
  have h10 := pow_le_1024 hP10
  have hsub : ∀ s, dif s M = 0 → OfS g nP s := fun s hs p hp => ho p (dif_sub hs hp)
  have hok : ∀ s, s < 2 ^ nP → okD (wTo g nN) nN nT M U s = okM g nP nN nT U M s := by
    intro s hs
    unfold okD okM
    by_cases h : dif s M = 0
    · have hoff : dif s (mOff g nP) = 0 := by
        apply Nat.eq_of_testBit_eq
        intro i
        rw [dif_bit, Nat.zero_testBit, mOff, maskN_bit]
        cases hb : s.testBit i
        · rfl
        · have := hsub s h i hb
          simp [this.1, (hP i this.1).2 ▸ this.2]
      rw [goes_eq hP hN hT hP10 (by omega) (hsub s h), mGoes, nx_dif, hoff, decide_eq_true h, decide_eq_true (show nI 0 = 0 from rfl)]
      cases decide (s &&& U = U) <;> simp
    · rw [decide_eq_false h]
      cases decide (s &&& U = U) <;> simp
  have hv : ∀ s, s < 2 ^ nP → dif s M = 0 → vD (wTo g nN) s = vM g nP s := by
    intro s hs h
    show sumI (g 4) s 10 = sumI (g 28) s nP
    rw [show (10 : Nat) = nP + (10 - nP) by omega, sumI_top hs]
    exact sumI_congr nP (fun p hp hb => (hU p hp (hsub s h p hb).2).2)
  have hd : ∀ s, okD (wTo g nN) nN nT M U s = true → dif s M = 0 := fun s h => by
    unfold okD at h
    rw [Bool.and_eq_true, decide_eq_true_iff] at h
    exact h.1
  have h1 := grt_mx (g := wTo g nN) (nN := nN) (nT := nT) (M := M) (U := U) (fun p hp => (hU p (ho p hp).1 (ho p hp).2).1) (by omega)
  have h2 : IsMx (okD (wTo g nN) nN nT M U) (bwB (vD (wTo g nN))) (fun s => s < 2 ^ nP) (grt (wTo g nN) nN nT M U) := h1.ext (fun s hs => by omega) (fun s hs hn => by
    rw [Bool.eq_false_iff]
    intro z
    have := dif_0.mp (hd s z)
    have h9 := Nat.and_le_right (n := s) (m := M)
    rw [this] at h9
    omega)
  refine mx_uniq (bwB_ord (vM g nP)) (fun s hs => by omega) (h2.conv hok (fun m s hm hs om os => ?_)) (mBest_mx hP10)
  unfold bwB
  rw [hv m hm (hd m om), hv s hs (hd s os)]
