/-! ===== the end of a cut, trains ===== -/
/-- the first n places that c picks take v -/
def upL (f : Nat → Int32) (c : Nat → Bool) (v : Nat → Int32) (n : Nat) : Nat → Int32 := fun p => if (decide (p < n) && c p) = true then v p else f p
theorem upL_0 (f : Nat → Int32) (c : Nat → Bool) (v : Nat → Int32) : upL f c v 0 = f := by
  funext p
  unfold upL
  rw [decide_eq_false (Nat.not_lt_zero p), Bool.false_and, if_neg (by decide)]
theorem upL_hi {f : Nat → Int32} {c : Nat → Bool} {v : Nat → Int32} {n p : Nat} (h : n ≤ p) : upL f c v n p = f p := by
  unfold upL
  rw [decide_eq_false (by omega), Bool.false_and, if_neg (by decide)]
theorem upL_in {f : Nat → Int32} {c : Nat → Bool} {v : Nat → Int32} {n p : Nat} (h : p < n) : upL f c v n p = if c p = true then v p else f p := by
  unfold upL
  rw [decide_eq_true h, Bool.true_and]
theorem upL_t {f : Nat → Int32} {c : Nat → Bool} {v : Nat → Int32} {n : Nat} (h : c n = true) : upL f c v (n + 1) = upd (upL f c v n) n (v n) := by
  funext p
  by_cases z : p = n
  · subst z
    rw [pk_us, upL_in (Nat.lt_succ_self p), if_pos h]
  · rw [pk_un z]
    unfold upL
    rw [decide_eq_decide.mpr (show p < n + 1 ↔ p < n by omega)]
theorem upL_f {f : Nat → Int32} {c : Nat → Bool} {v : Nat → Int32} {n : Nat} (h : c n = false) : upL f c v (n + 1) = upL f c v n := by
  funext p
  by_cases z : p = n
  · subst z
    rw [upL_in (Nat.lt_succ_self p), h, if_neg (by decide), upL_hi (Nat.le_refl p)]
  · unfold upL
    rw [decide_eq_decide.mpr (show p < n + 1 ↔ p < n by omega)]
/-- a kept offer that becomes one -/
def tk (a h : Nat → Int32) (p : Nat) : Bool := !decide (a p = -1) && !decide (a p = h p)
section INV5
variable {g g' : Nat → Nat → Int32} {T : Nat → TR} {n nP nN nT nW C : Nat}
theorem endG_cf (g : Nat → Nat → Int32) : ∀ n, n ≤ 10 → endG g n 3 = upL (g 3) (tk (g 6) (g 1)) (g 6) n ∧ endG g n 4 = upL (g 4) (tk (g 6) (g 1)) (g 7) n ∧ endG g n 6 = upL (g 6) (fun _ => true) (fun _ => -1) n ∧ endG g n 7 = upL (g 7) (fun _ => true) (fun _ => -1) n
  | 0, _ => by simp only [upL_0]; exact ⟨rfl, rfl, rfl, rfl⟩
  | n + 1, h => by
    obtain ⟨h3, h4, h6, h7⟩ := endG_cf g n (by omega)
    have h1 : endG g n 1 = g 1 := endG_k g 1 (by decide) (by decide) (by decide) (by decide) (by decide) n
    have a6 : endG g n 6 n = g 6 n := by rw [h6, upL_hi (Nat.le_refl n)]
    have a7 : endG g n 7 n = g 7 n := by rw [h7, upL_hi (Nat.le_refl n)]
    show endStep (endG g n) n 3 = _ ∧ endStep (endG g n) n 4 = _ ∧ endStep (endG g n) n 6 = _ ∧ endStep (endG g n) n 7 = _
    unfold endStep
    rw [at10_nI (by omega), at10_nI (by omega), a6, a7, h1, upL_t (c := fun _ => true) (n := n) rfl, upL_t (c := fun _ => true) (n := n) rfl, ← h6, ← h7]
    by_cases q1 : g 6 n = -1
    · have ht : tk (g 6) (g 1) n = false := by unfold tk; rw [decide_eq_true q1]; rfl
      rw [if_pos q1, upL_f ht, upL_f ht, put_nI (by omega)]
      exact ⟨h3, h4, rfl, rfl⟩
    · rw [if_neg q1]
      by_cases q2 : g 6 n = g 1 n
      · have ht : tk (g 6) (g 1) n = false := by unfold tk; rw [decide_eq_true q2, Bool.not_true, Bool.and_false]
        rw [if_pos q2, upL_f ht, upL_f ht, put_nI (by omega)]
        exact ⟨h3, h4, rfl, rfl⟩
      · have ht : tk (g 6) (g 1) n = true := by unfold tk; rw [decide_eq_false q1, decide_eq_false q2]; rfl
        rw [if_neg q2, upL_t ht, upL_t ht, put_nI (by omega), put_nI (by omega), ← h3, ← h4]
        exact ⟨rfl, rfl, rfl, rfl⟩
theorem nxG_cf (g : Nat → Nat → Int32) : ∀ n, nxG g n 27 = upL (g 27) (tk (g 29) (g 26)) (g 29) n ∧ nxG g n 28 = upL (g 28) (tk (g 29) (g 26)) (g 30) n ∧ nxG g n 29 = upL (g 29) (fun _ => true) (fun _ => -1) n
  | 0 => by simp only [upL_0]; exact ⟨rfl, rfl, rfl⟩
  | n + 1 => by
    obtain ⟨h7, h8, h9⟩ := nxG_cf g n
    have h6 : nxG g n 26 = g 26 := nxG_k g 26 (by decide) (by decide) (by decide) (by decide) n
    have h0 : nxG g n 30 = g 30 := nxG_k g 30 (by decide) (by decide) (by decide) (by decide) n
    have a9 : nxG g n 29 n = g 29 n := by rw [h9, upL_hi (Nat.le_refl n)]
    show nxStep (nxG g n) n 27 = _ ∧ nxStep (nxG g n) n 28 = _ ∧ nxStep (nxG g n) n 29 = _
    rw [upL_t (c := fun _ => true) (n := n) rfl, ← h9]
    unfold nxStep nxS1
    rw [a9, h6, h0]
    by_cases q1 : g 29 n = -1
    · have ht : tk (g 29) (g 26) n = false := by unfold tk; rw [decide_eq_true q1]; rfl
      rw [if_pos q1, upL_f ht, upL_f ht]
      exact ⟨h7, h8, rfl⟩
    · rw [if_neg q1]
      by_cases q2 : g 29 n = g 26 n
      · have ht : tk (g 29) (g 26) n = false := by unfold tk; rw [decide_eq_true q2, Bool.not_true, Bool.and_false]
        rw [if_pos q2, upL_f ht, upL_f ht]
        exact ⟨h7, h8, rfl⟩
      · have ht : tk (g 29) (g 26) n = true := by unfold tk; rw [decide_eq_false q1, decide_eq_false q2]; rfl
        rw [if_neg q2, upL_t ht, upL_t ht, ← h7, ← h8]
        exact ⟨rfl, rfl, rfl⟩
/-- the end of a cut keeps what holds of the offers -/
theorem end_iv (hP10 : nP ≤ 10) (hP : IvP g nP) (hU : IvU g nP) (hO : IvO g nP) (hK : IvK g nP) (e1 : g' 1 = g 1) (e26 : g' 26 = g 26) (e3 : g' 3 = upL (g 3) (tk (g 6) (g 1)) (g 6) nP) (e4 : g' 4 = upL (g 4) (tk (g 6) (g 1)) (g 7) nP) (e6 : g' 6 = upL (g 6) (fun _ => true) (fun _ => -1) nP) (e7 : g' 7 = upL (g 7) (fun _ => true) (fun _ => -1) nP) (e27 : g' 27 = upL (g 27) (tk (g 29) (g 26)) (g 29) nP) (e28 : g' 28 = upL (g 28) (tk (g 29) (g 26)) (g 30) nP) (e29 : g' 29 = upL (g 29) (fun _ => true) (fun _ => -1) nP) : IvP g' nP ∧ IvU g' nP ∧ IvO g' nP ∧ IvK g' nP := by
  have htk : ∀ p, p < nP → tk (g 29) (g 26) p = tk (g 6) (g 1) p := fun p hp => by
    unfold tk
    rw [(hK p hp).1, (hP p hp).1]
  refine ⟨fun p hp => ?_, fun p hp hq => ?_, fun p hp => ?_, fun p hp => ?_⟩
  · rw [e1, e26, e3, e27, upL_in hp, upL_in hp, htk p hp, ← (hK p hp).1, ← (hP p hp).2]
    exact ⟨(hP p hp).1, rfl⟩
  · rw [e3, upL_in hp] at hq
    rw [e4, e28, upL_in hp, upL_in hp, htk p hp]
    by_cases z : tk (g 6) (g 1) p = true
    · rw [if_pos z] at hq
      rw [if_pos z, if_pos z]
      exact (hK p hp).2 hq
    · rw [if_neg z] at hq
      rw [if_neg z, if_neg z]
      exact hU p hp hq
  · have ho := hO p hp
    rw [e1, e3, e4, e6, e7]
    by_cases h2 : p < nP
    · rw [upL_in h2, upL_in h2, upL_in h2, upL_in h2, if_pos rfl, if_pos rfl]
      refine ⟨fun z => absurd z (by omega), fun z => ?_, fun z => ?_, fun _ => rfl⟩
      · by_cases zt : tk (g 6) (g 1) p = true
        · rw [if_pos zt] at z
          unfold tk at zt
          rw [decide_eq_true z] at zt
          cases zt
        · rw [if_neg zt] at z ⊢
          exact ho.2.1 z
      · by_cases zt : tk (g 6) (g 1) p = true
        · rw [if_pos zt]
          unfold tk at zt
          rw [Bool.and_eq_true, Bool.not_eq_true', Bool.not_eq_true', decide_eq_false_iff_not, decide_eq_false_iff_not] at zt
          exact zt.2
        · rw [if_neg zt] at z ⊢
          exact ho.2.2.1 z
    · rw [upL_hi (by omega), upL_hi (by omega), upL_hi (by omega), upL_hi (by omega)]
      exact ho
  · rw [e6, e29, upL_in hp, upL_in hp, if_pos rfl, if_pos rfl]
    exact ⟨rfl, fun z => absurd rfl z⟩
theorem c_giveUp (h : Iv g T n nP nN nT nW C) : (dGiveUp g nP).1 = (mGiveUp (T0 (dGiveUp g nP).2) nP).1 ∧ IV (mGiveUp (T0 (dGiveUp g nP).2) nP).2 T n := by
  have hI := h
  obtain ⟨hC, ⟨hP, hN, hT, hU⟩, ⟨hO, hK, hW⟩, hX, hR, hc⟩ := h
  have hP10 := hC.1.2.2
  unfold dGiveUp
  by_cases q1 : g 25 25 = 0
  · rw [cut_off hX q1, if_neg (by decide)]
    unfold mGiveUp
    rw [if_pos (by exact q1)]
    exact ⟨rfl, hI.iv (EqV.t0 g)⟩
  · rw [cut_on hX q1, if_pos rfl]
    have hk : ∀ k, k ≠ 0 → k ≠ 3 → k ≠ 4 → k ≠ 6 → k ≠ 7 → k ≠ 25 → T0 (endG g nP) k = g k := fun k h0 h1 h2 h3 h4 h5 => by rw [T0_k h5, endG_k g k h0 h1 h2 h3 h4 nP]
    have h25 : ∀ j, j ≠ 0 → T0 (endG g nP) 25 j = g 25 j := fun j hj => by
      rw [show T0 (endG g nP) 25 = upd (endG g nP 25) 0 0 from rfl, pk_un hj, endG_k g 25 (by decide) (by decide) (by decide) (by decide) (by decide) nP]
    unfold mGiveUp
    dsimp only
    rw [if_neg (show ¬ T0 (endG g nP) 25 25 = 0 by rw [h25 25 (by decide)]; exact q1)]
    refine ⟨rfl, ?_⟩
    dsimp only
    generalize hg2 : nxG (T0 (endG g nP)) nP = g2
    obtain ⟨c3, c4, c6, c7⟩ := endG_cf g nP hP10
    obtain ⟨c27, c28, c29⟩ := nxG_cf (T0 (endG g nP)) nP
    have d : ∀ k, k ≠ 0 → k ≠ 3 → k ≠ 4 → k ≠ 6 → k ≠ 7 → k ≠ 25 → k ≠ 27 → k ≠ 28 → k ≠ 29 → g2 k = g k := fun k h0 h1 h2 h3 h4 h5 h6 h7 h8 => by
      rw [← hg2, nxG_k _ k h5 h6 h7 h8 nP, hk k h0 h1 h2 h3 h4 h5]
    have dd : ∀ k, k ≠ 25 → k ≠ 27 → k ≠ 28 → k ≠ 29 → g2 k = endG g nP k := fun k h5 h6 h7 h8 => by
      rw [← hg2, nxG_k _ k h5 h6 h7 h8 nP, T0_k h5]
    have d0 : g2 0 = upd (g 0) 10 (-1) := (dd 0 (by decide) (by decide) (by decide) (by decide)).trans (endG_09 g nP)
    have d25 : ∀ j, j ≠ 0 → j ≠ 25 → g2 25 j = g 25 j := fun j h1 h2 => by
      rw [← hg2, nxG_25, pk_un h2, h25 j h1]
    have d2525 : g2 25 25 = 0 := by rw [← hg2, nxG_25, pk_us]
    have k6 := hk 26 (by decide) (by decide) (by decide) (by decide) (by decide) (by decide)
    have k7 := hk 27 (by decide) (by decide) (by decide) (by decide) (by decide) (by decide)
    have k8 := hk 28 (by decide) (by decide) (by decide) (by decide) (by decide) (by decide)
    have k9 := hk 29 (by decide) (by decide) (by decide) (by decide) (by decide) (by decide)
    have k0 := hk 30 (by decide) (by decide) (by decide) (by decide) (by decide) (by decide)
    rw [k6, k7, k9] at c27
    rw [k6, k8, k9, k0] at c28
    rw [k9] at c29
    have d1 := d 1 (by decide) (by decide) (by decide) (by decide) (by decide) (by decide) (by decide) (by decide) (by decide)
    obtain ⟨a1, a2, a3, a4⟩ := end_iv (g' := g2) hP10 hP hU hO hK d1 (d 26 (by decide) (by decide) (by decide) (by decide) (by decide) (by decide) (by decide) (by decide) (by decide)) ((dd 3 (by decide) (by decide) (by decide) (by decide)).trans c3) ((dd 4 (by decide) (by decide) (by decide) (by decide)).trans c4) ((dd 6 (by decide) (by decide) (by decide) (by decide)).trans c6) ((dd 7 (by decide) (by decide) (by decide) (by decide)).trans c7) (by rw [← hg2]; exact c27) (by rw [← hg2]; exact c28) (by rw [← hg2]; exact c29)
    have dq : ∀ k, (8 ≤ k ∧ k ≤ 24) ∨ (30 ≤ k) → g2 k = g k := fun k hk => d k (by omega) (by omega) (by omega) (by omega) (by omega) (by omega) (by omega) (by omega) (by omega)
    refine ⟨nP, nN, nT, nW, C, ?_, ⟨a1, ?_, ?_, a2⟩, ⟨a3, a4, ?_⟩, ⟨hX.1, (d25 24 (by decide) (by decide)).trans hX.2.1, Or.inl ⟨by rw [d0]; exact pk_us, d2525⟩⟩, ?_, by rw [d1]; exact hc⟩
    · unfold IvC
      rw [d0, dq 8 (by omega), dq 16 (by omega), dq 21 (by omega), dq 24 (by omega), d25 19 (by decide) (by decide), d25 20 (by decide) (by decide), d25 21 (by decide) (by decide), d25 22 (by decide) (by decide), d25 23 (by decide) (by decide)]
      exact hC
    · unfold IvN
      rw [dq 9 (by omega), dq 10 (by omega), dq 11 (by omega), dq 12 (by omega), dq 13 (by omega), dq 31 (by omega), dq 32 (by omega), dq 33 (by omega), dq 34 (by omega), dq 35 (by omega)]
      exact hN
    · unfold IvT
      rw [dq 17 (by omega), dq 36 (by omega)]
      exact hT
    · unfold IvW
      rw [dq 22 (by omega), dq 23 (by omega), dq 37 (by omega), dq 38 (by omega)]
      exact hW
    · unfold IvR
      rw [dq 39 (by omega), dq 40 (by omega), dq 41 (by omega), dq 42 (by omega), dq 43 (by omega)]
      exact hR
theorem snL_cf (hch : ∀ p, p < nP → chB g (nI p) = C.testBit p) (hP10 : nP ≤ 10) : ∀ n, n ≤ nP → snL g n 1 = upL (g 1) C.testBit (g 3) n ∧ snL g n 3 = upL (g 3) C.testBit (fun _ => -1) n ∧ snL g n 4 = upL (g 4) C.testBit (fun _ => -1) n
  | 0, _ => by simp only [upL_0]; exact ⟨rfl, rfl, rfl⟩
  | n + 1, h => by
    obtain ⟨h1, h3, h4⟩ := snL_cf hch hP10 n (by omega)
    have hc : chB (snL g n) (nI n) = C.testBit n := by
      rw [← hch n (by omega)]
      unfold chB cutB
      rw [snL_k g 0 (by decide) (by decide) (by decide) n]
    have a3 : snL g n 3 n = g 3 n := by rw [h3, upL_hi (Nat.le_refl n)]
    unfold snL
    rw [hc]
    by_cases q : C.testBit n = true
    · rw [if_pos q, put_nI (by omega), at10_nI (by omega), a3, upL_t q, upL_t q, upL_t q, ← h1, ← h3, ← h4]
      exact ⟨rfl, rfl, rfl⟩
    · have q' := Bool.eq_false_iff.mpr q
      rw [if_neg q, upL_f q', upL_f q', upL_f q']
      exact ⟨h1, h3, h4⟩
theorem sdL_cf (g : Nat → Nat → Int32) (t C : Nat) : ∀ n, sdL g t C n 26 = upL (g 26) C.testBit (g 27) n ∧ sdL g t C n 27 = upL (g 27) C.testBit (fun _ => -1) n ∧ (∀ i, sdL g t C n 41 i = if 10 * t ≤ i ∧ i < 10 * t + n then g 26 (i - 10 * t) else g 41 i) ∧ (∀ i, sdL g t C n 42 i = if 10 * t ≤ i ∧ i < 10 * t + n then (if C.testBit (i - 10 * t) = true then g 27 (i - 10 * t) else g 26 (i - 10 * t)) else g 42 i)
  | 0 => by
    simp only [upL_0]
    exact ⟨rfl, rfl, fun i => by rw [if_neg (by omega)]; rfl, fun i => by rw [if_neg (by omega)]; rfl⟩
  | n + 1 => by
    obtain ⟨h6, h7, h1, h2⟩ := sdL_cf g t C n
    have a6 : sdL g t C n 26 n = g 26 n := by rw [h6, upL_hi (Nat.le_refl n)]
    have a7 : sdL g t C n 27 n = g 27 n := by rw [h7, upL_hi (Nat.le_refl n)]
    have hs : sdL g t C (n + 1) = sdStep (sdL g t C n) t C n := rfl
    rw [hs]
    have k41 : ∀ i, upd (sdL g t C n 41) (10 * t + n) (g 26 n) i = if 10 * t ≤ i ∧ i < 10 * t + (n + 1) then g 26 (i - 10 * t) else g 41 i := fun i => by
      by_cases z : i = 10 * t + n
      · subst z
        rw [pk_us, if_pos (by omega), show 10 * t + n - 10 * t = n by omega]
      · rw [pk_un z, h1 i]
        by_cases z2 : 10 * t ≤ i ∧ i < 10 * t + n
        · rw [if_pos z2, if_pos (by omega)]
        · rw [if_neg z2, if_neg (by omega)]
    have k42 : ∀ (x : Int32), x = (if C.testBit n = true then g 27 n else g 26 n) → ∀ i, upd (sdL g t C n 42) (10 * t + n) x i = if 10 * t ≤ i ∧ i < 10 * t + (n + 1) then (if C.testBit (i - 10 * t) = true then g 27 (i - 10 * t) else g 26 (i - 10 * t)) else g 42 i := fun x hx i => by
      by_cases z : i = 10 * t + n
      · subst z
        rw [pk_us, if_pos (by omega), show 10 * t + n - 10 * t = n by omega]
        exact hx
      · rw [pk_un z, h2 i]
        by_cases z2 : 10 * t ≤ i ∧ i < 10 * t + n
        · rw [if_pos z2, if_pos (show 10 * t ≤ i ∧ i < 10 * t + (n + 1) by omega)]
        · rw [if_neg z2, if_neg (show ¬ (10 * t ≤ i ∧ i < 10 * t + (n + 1)) by omega)]
    unfold sdStep sdS1
    rw [a6, a7]
    by_cases q : C.testBit n = true
    · rw [if_pos q, upL_t q, upL_t q, ← h6, ← h7]
      exact ⟨rfl, rfl, k41, k42 _ (by rw [if_pos q]; exact pk_us)⟩
    · have q' := Bool.eq_false_iff.mpr q
      rw [if_neg q, upL_f q', upL_f q', ← h6, ← h7]
      exact ⟨rfl, rfl, k41, k42 _ (by rw [if_neg q]; exact a6)⟩
theorem c_send (h : Iv g T n nP nN nT nW C) (hcut : ¬ g 25 25 = 0) (hn : n < 60) {ha hb : Nat → Int32} (hha : ∀ j, j < nP → ha j = g 1 j) (hhb : ∀ j, j < nP → hb j = snL g nP 1 j) (a f : Nat → Int32) (rm : Int32) : IV (nxG (sdG (sc (T0 (dSndG g nP)) a f rm) n C nP) nP) (fun t => if t < n then T t else (nP, ha, hb, g 0 10, 0)) (n + 1) := by
  have hI := h
  obtain ⟨hC, ⟨hP, hN, hT, hU⟩, ⟨hO, hK, hW⟩, hX, hR, hc⟩ := h
  have hP10 := hC.1.2.2
  have hC10 := hX.1
  obtain ⟨hC0, ho, _, _⟩ := hX.on hcut
  have hch : ∀ p, p < nP → chB g (nI p) = C.testBit p := fun p hp => ch_eq hX hcut (by omega)
  obtain ⟨s1, s3, s4⟩ := snL_cf hch hP10 nP (Nat.le_refl nP)
  have sk := snL_k g
  -- the joint state ahead of the end
  generalize hd : alG (snL g nP) = gd
  have gd1 : gd 1 = upL (g 1) C.testBit (g 3) nP := by rw [← hd]; exact s1
  have gd3 : gd 3 = upL (g 3) C.testBit (fun _ => -1) nP := by rw [← hd]; exact s3
  have gd4 : gd 4 = upL (g 4) C.testBit (fun _ => -1) nP := by rw [← hd]; exact s4
  have gdk : ∀ k, k ≠ 1 → k ≠ 3 → k ≠ 4 → k ≠ 24 → gd k = g k := fun k h1 h2 h3 h4 => by
    rw [← hd]
    unfold alG
    rw [va_up_ne _ _ h4, va_up_ne _ _ h4, sk k h1 h2 h3 nP]
  have gd24 : gd 24 2 = g 24 2 + 1 := by
    rw [← hd]
    show snL g nP 24 2 + 1 = _
    rw [sk 24 (by decide) (by decide) (by decide) nP]
  show IV (nxG (sdG (sc (T0 (endG (alG (snL g nP)) nP)) a f rm) n C nP) nP) _ _
  rw [hd]
  generalize hm : sc (T0 (endG gd nP)) a f rm = gm
  have gmk : ∀ k, k ≠ 25 → k ≠ 44 → k ≠ 45 → gm k = endG gd nP k := fun k h1 h2 h3 => by
    rw [← hm]
    unfold sc
    rw [va_up_ne _ _ h1, va_up_ne _ _ h3, va_up_ne _ _ h2, T0_k h1]
  have gm25 : ∀ j, j ≠ 0 → j ≠ 30 → gm 25 j = g 25 j := fun j h1 h2 => by
    rw [← hm]
    show upd (upd (endG gd nP 25) 0 0) 30 rm j = _
    rw [pk_un h2, pk_un h1, endG_k gd 25 (by decide) (by decide) (by decide) (by decide) (by decide) nP, gdk 25 (by decide) (by decide) (by decide) (by decide)]
  have gmr : ∀ k, 26 ≤ k → k < 44 → gm k = g k := fun k h1 h2 => by
    rw [gmk k (by omega) (by omega) (by omega), endG_k gd k (by omega) (by omega) (by omega) (by omega) (by omega) nP, gdk k (by omega) (by omega) (by omega) (by omega)]
  obtain ⟨u6, u7, u41, u42⟩ := sdL_cf (sdG0 gm n) n C nP
  generalize hs : sdG gm n C nP = gs
  have gsL : ∀ k, k ≠ 25 → gs k = sdL (sdG0 gm n) n C nP k := fun k h1 => by
    rw [← hs]
    unfold sdG
    rw [va_up_ne _ _ h1]
  have gsk : ∀ k, k ≠ 25 → k ≠ 26 → k ≠ 27 → k ≠ 39 → k ≠ 40 → k ≠ 41 → k ≠ 42 → k ≠ 43 → gs k = gm k := fun k h5 h6 h7 h39 h40 h41 h42 h43 => by
    rw [gsL k h5, sdL_k _ n C k h41 h6 h7 h42 nP]
    unfold sdG0
    rw [va_up_ne _ _ h43, va_up_ne _ _ h40, va_up_ne _ _ h39]
  have gs25 : ∀ j, j ≠ 23 → gs 25 j = gm 25 j := fun j h1 => by
    rw [← hs]
    show upd (sdL (sdG0 gm n) n C nP 25) 23 _ j = _
    rw [pk_un h1, sdL_k _ n C 25 (by decide) (by decide) (by decide) (by decide) nP]
    rfl
  have gs23 : gs 25 23 = g 25 23 + 1 := by
    rw [← hs]
    show upd (sdL (sdG0 gm n) n C nP 25) 23 (sdL (sdG0 gm n) n C nP 25 23 + 1) 23 = _
    rw [pk_us, sdL_k _ n C 25 (by decide) (by decide) (by decide) (by decide) nP]
    show gm 25 23 + 1 = _
    rw [gm25 23 (by decide) (by decide)]
  have gs26 : gs 26 = upL (g 26) C.testBit (g 27) nP := by
    rw [gsL 26 (by decide), u6, show sdG0 gm n 26 = gm 26 from rfl, show sdG0 gm n 27 = gm 27 from rfl, gmr 26 (by decide) (by decide), gmr 27 (by decide) (by decide)]
  have gs27 : gs 27 = upL (g 27) C.testBit (fun _ => -1) nP := by
    rw [gsL 27 (by decide), u7, show sdG0 gm n 27 = gm 27 from rfl, gmr 27 (by decide) (by decide)]
  have gs39 : gs 39 = upd (g 39) n (nI nP) := by
    rw [gsL 39 (by decide), sdL_k _ n C 39 (by decide) (by decide) (by decide) (by decide) nP]
    show upd (gm 39) n (gm 25 19) = _
    rw [gmr 39 (by decide) (by decide), gm25 19 (by decide) (by decide), hC.1.2.1]
  have gs40 : gs 40 = upd (g 40) n (nI C) := by
    rw [gsL 40 (by decide), sdL_k _ n C 40 (by decide) (by decide) (by decide) (by decide) nP]
    show upd (gm 40) n (gm 25 24) = _
    rw [gmr 40 (by decide) (by decide), gm25 24 (by decide) (by decide), hX.2.1]
  have gs43 : gs 43 = upd (g 43) n 0 := by
    rw [gsL 43 (by decide), sdL_k _ n C 43 (by decide) (by decide) (by decide) (by decide) nP]
    show upd (gm 43) n 0 = _
    rw [gmr 43 (by decide) (by decide)]
  have gs41 : ∀ i, gs 41 i = if 10 * n ≤ i ∧ i < 10 * n + nP then g 26 (i - 10 * n) else g 41 i := fun i => by
    rw [gsL 41 (by decide), u41 i, show sdG0 gm n 26 = gm 26 from rfl, show sdG0 gm n 41 = gm 41 from rfl, gmr 26 (by decide) (by decide), gmr 41 (by decide) (by decide)]
  have gs42 : ∀ i, gs 42 i = if 10 * n ≤ i ∧ i < 10 * n + nP then (if C.testBit (i - 10 * n) = true then g 27 (i - 10 * n) else g 26 (i - 10 * n)) else g 42 i := fun i => by
    rw [gsL 42 (by decide), u42 i, show sdG0 gm n 26 = gm 26 from rfl, show sdG0 gm n 27 = gm 27 from rfl, show sdG0 gm n 42 = gm 42 from rfl, gmr 26 (by decide) (by decide), gmr 27 (by decide) (by decide), gmr 42 (by decide) (by decide)]
  obtain ⟨v7, v8, v9⟩ := nxG_cf gs nP
  generalize hg2 : nxG gs nP = g2
  have g2k : ∀ k, k ≠ 25 → k ≠ 27 → k ≠ 28 → k ≠ 29 → g2 k = gs k := fun k h5 h7 h8 h9 => by rw [← hg2, nxG_k gs k h5 h7 h8 h9 nP]
  have g2d : ∀ k, k < 25 → g2 k = endG gd nP k := fun k hk => by
    rw [g2k k (by omega) (by omega) (by omega) (by omega), gsk k (by omega) (by omega) (by omega) (by omega) (by omega) (by omega) (by omega) (by omega), gmk k (by omega) (by omega) (by omega)]
  have g2g : ∀ k, (8 ≤ k ∧ k < 24) ∨ (30 ≤ k ∧ k < 39) → g2 k = g k := fun k hk => by
    rw [g2k k (by omega) (by omega) (by omega) (by omega), gsk k (by omega) (by omega) (by omega) (by omega) (by omega) (by omega) (by omega) (by omega), gmk k (by omega) (by omega) (by omega), endG_k gd k (by omega) (by omega) (by omega) (by omega) (by omega) nP, gdk k (by omega) (by omega) (by omega) (by omega)]
  have g225 : ∀ j, j ≠ 0 → j ≠ 30 → j ≠ 23 → j ≠ 25 → g2 25 j = g 25 j := fun j h1 h2 h3 h4 => by
    rw [← hg2, nxG_25, pk_un h4, gs25 j h3, gm25 j h1 h2]
  have g223 : g2 25 23 = g 25 23 + 1 := by rw [← hg2, nxG_25, pk_un (by decide), gs23]
  have g22525 : g2 25 25 = 0 := by rw [← hg2, nxG_25, pk_us]
  -- the joint state ahead of the end, as one table
  generalize hJ : va_up (va_up (va_up (va_up (va_up g 1 (gd 1)) 3 (gd 3)) 4 (gd 4)) 26 (gs 26)) 27 (gs 27) = J
  have J1 : J 1 = upL (g 1) C.testBit (g 3) nP := by rw [← hJ]; exact gd1
  have J3 : J 3 = upL (g 3) C.testBit (fun _ => -1) nP := by rw [← hJ]; exact gd3
  have J4 : J 4 = upL (g 4) C.testBit (fun _ => -1) nP := by rw [← hJ]; exact gd4
  have J26 : J 26 = upL (g 26) C.testBit (g 27) nP := by rw [← hJ]; exact gs26
  have J27 : J 27 = upL (g 27) C.testBit (fun _ => -1) nP := by rw [← hJ]; exact gs27
  have Jk : ∀ k, k ≠ 1 → k ≠ 3 → k ≠ 4 → k ≠ 26 → k ≠ 27 → J k = g k := fun k h1 h3 h4 h6 h7 => by rw [← hJ, va_up_ne _ _ h7, va_up_ne _ _ h6, va_up_ne _ _ h4, va_up_ne _ _ h3, va_up_ne _ _ h1]
  have jP : IvP J nP := fun p hp => by
    rw [J1, J3, J26, J27, upL_in hp, upL_in hp, upL_in hp, upL_in hp, (hP p hp).1, (hP p hp).2]
    exact ⟨rfl, rfl⟩
  have jU : IvU J nP := fun p hp hq => by
    rw [J3, upL_in hp] at hq
    rw [J4, Jk 28 (by decide) (by decide) (by decide) (by decide) (by decide), upL_in hp]
    by_cases z : C.testBit p = true
    · rw [if_pos z] at hq
      exact absurd rfl hq
    · rw [if_neg z] at hq ⊢
      exact hU p hp hq
  have jO : IvO J nP := fun p hp => by
    have hop := hO p hp
    rw [J1, J3, J4, Jk 6 (by decide) (by decide) (by decide) (by decide) (by decide), Jk 7 (by decide) (by decide) (by decide) (by decide) (by decide)]
    by_cases z2 : p < nP
    · rw [upL_in z2, upL_in z2, upL_in z2]
      by_cases z : C.testBit p = true
      · rw [if_pos z, if_pos z, if_pos z]
        exact ⟨fun z => absurd z (by omega), fun _ => rfl, fun z => absurd rfl z, hop.2.2.2⟩
      · rw [if_neg z, if_neg z, if_neg z]
        exact hop
    · rw [upL_hi (by omega), upL_hi (by omega), upL_hi (by omega)]
      exact hop
  have jK : IvK J nP := by
    unfold IvK
    rw [Jk 6 (by decide) (by decide) (by decide) (by decide) (by decide), Jk 7 (by decide) (by decide) (by decide) (by decide) (by decide), Jk 29 (by decide) (by decide) (by decide) (by decide) (by decide), Jk 30 (by decide) (by decide) (by decide) (by decide) (by decide)]
    exact hK
  obtain ⟨c3, c4, c6, c7⟩ := endG_cf gd nP hP10
  have gd6 := gdk 6 (by decide) (by decide) (by decide) (by decide)
  have gd7 := gdk 7 (by decide) (by decide) (by decide) (by decide)
  have J6 := Jk 6 (by decide) (by decide) (by decide) (by decide) (by decide)
  have J7 := Jk 7 (by decide) (by decide) (by decide) (by decide) (by decide)
  have J28 := Jk 28 (by decide) (by decide) (by decide) (by decide) (by decide)
  have J29 := Jk 29 (by decide) (by decide) (by decide) (by decide) (by decide)
  have J30 := Jk 30 (by decide) (by decide) (by decide) (by decide) (by decide)
  have gs28 : gs 28 = g 28 := (gsk 28 (by decide) (by decide) (by decide) (by decide) (by decide) (by decide) (by decide) (by decide)).trans (gmr 28 (by decide) (by decide))
  have gs29 : gs 29 = g 29 := (gsk 29 (by decide) (by decide) (by decide) (by decide) (by decide) (by decide) (by decide) (by decide)).trans (gmr 29 (by decide) (by decide))
  have gs30 : gs 30 = g 30 := (gsk 30 (by decide) (by decide) (by decide) (by decide) (by decide) (by decide) (by decide) (by decide)).trans (gmr 30 (by decide) (by decide))
  have g21 : g2 1 = upL (g 1) C.testBit (g 3) nP := by rw [g2d 1 (by decide), endG_k gd 1 (by decide) (by decide) (by decide) (by decide) (by decide) nP, gd1]
  obtain ⟨a1, a2, a3, a4⟩ := end_iv (g := J) (g' := g2) hP10 jP jU jO jK (g21.trans J1.symm) (by rw [g2k 26 (by decide) (by decide) (by decide) (by decide), gs26, J26]) (by rw [g2d 3 (by decide), c3, gd1, gd3, gd6, J1, J3, J6]) (by rw [g2d 4 (by decide), c4, gd1, gd4, gd6, gd7, J1, J4, J6, J7]) (by rw [g2d 6 (by decide), c6, gd6, J6]) (by rw [g2d 7 (by decide), c7, gd7, J7]) (by rw [← hg2, v7, gs26, gs27, gs29, J26, J27, J29]) (by rw [← hg2, v8, gs26, gs28, gs29, gs30, J26, J28, J29, J30]) (by rw [← hg2, v9, gs29, J29])
  have hld : (g 0 10).toNatClampNeg = C := by rw [hC0, nI_clamp (by omega)]
  refine ⟨nP, nN, nT, nW, C, ⟨⟨?_, ?_, hP10⟩, ⟨?_, ?_, hC.2.1.2.2⟩, ⟨?_, ?_, hC.2.2.1.2.2⟩, ⟨?_, ?_, hC.2.2.2.1.2.2⟩, ⟨?_, ?_, by omega⟩⟩, ⟨a1, ?_, ?_, a2⟩, ⟨a3, a4, ?_⟩, ⟨hC10, (g225 24 (by decide) (by decide) (by decide) (by decide)).trans hX.2.1, Or.inl ⟨?_, g22525⟩⟩, ?_, ?_⟩
  · rw [g2d 0 (by decide), endG_09, pk_un (by decide), gdk 0 (by decide) (by decide) (by decide) (by decide)]
    exact hC.1.1
  · rw [g225 19 (by decide) (by decide) (by decide) (by decide)]
    exact hC.1.2.1
  · rw [g2g 8 (by omega)]
    exact hC.2.1.1
  · rw [g225 20 (by decide) (by decide) (by decide) (by decide)]
    exact hC.2.1.2.1
  · rw [g2g 16 (by omega)]
    exact hC.2.2.1.1
  · rw [g225 21 (by decide) (by decide) (by decide) (by decide)]
    exact hC.2.2.1.2.1
  · rw [g2g 21 (by omega)]
    exact hC.2.2.2.1.1
  · rw [g225 22 (by decide) (by decide) (by decide) (by decide)]
    exact hC.2.2.2.1.2.1
  · rw [g2d 24 (by decide), endG_k gd 24 (by decide) (by decide) (by decide) (by decide) (by decide) nP, gd24, hC.2.2.2.2.1, nI_1]
  · rw [g223, hC.2.2.2.2.2.1, nI_1]
  · unfold IvN
    rw [g2g 9 (by omega), g2g 10 (by omega), g2g 11 (by omega), g2g 12 (by omega), g2g 13 (by omega), g2g 31 (by omega), g2g 32 (by omega), g2g 33 (by omega), g2g 34 (by omega), g2g 35 (by omega)]
    exact hN
  · unfold IvT
    rw [g2g 17 (by omega), g2g 36 (by omega)]
    exact hT
  · unfold IvW
    rw [g2g 22 (by omega), g2g 23 (by omega), g2g 37 (by omega), g2g 38 (by omega)]
    exact hW
  · rw [g2d 0 (by decide), endG_09]
    exact pk_us
  · intro t ht
    rw [g2k 39 (by decide) (by decide) (by decide) (by decide), g2k 40 (by decide) (by decide) (by decide) (by decide), g2k 41 (by decide) (by decide) (by decide) (by decide), g2k 42 (by decide) (by decide) (by decide) (by decide), g2k 43 (by decide) (by decide) (by decide) (by decide), gs39, gs40, gs43]
    by_cases z : t < n
    · dsimp only
      rw [if_pos z, pk_un (by omega), pk_un (by omega), pk_un (by omega)]
      obtain ⟨r1, r2, r3, r4, r5⟩ := hR t z
      refine ⟨r1, r2, r3, fun p hp => ?_, r5⟩
      rw [gs41, gs42, if_neg (by omega), if_neg (by omega)]
      exact r4 p hp
    · have z2 : t = n := by omega
      subst z2
      dsimp only
      rw [if_neg z, pk_us, pk_us, pk_us]
      refine ⟨Nat.le_refl _, rfl, ⟨C, ho.lt, hC0, rfl⟩, fun p hp => ?_, rfl⟩
      dsimp only at hp ⊢
      rw [gs41, gs42, if_pos (by omega), if_pos (by omega), show 10 * t + p - 10 * t = p by omega, hha p hp, hhb p hp, s1, upL_in hp, (hP p hp).1, (hP p hp).2]
      exact ⟨rfl, rfl⟩
  · unfold chn
    simp only [if_neg (Nat.lt_irrefl n)]
    rw [if_pos trivial]
    refine ⟨fun p hp _ => ?_, ?_⟩
    · rw [g21, hhb p hp, s1]
    · refine chn_T n _ (T := T) (fun t ht => if_pos ht) (chn_congr (m := nP) n (g 1) _ (fun t ht => (hR t ht).1) (fun p hp => ?_) hc)
      unfold brF ldN
      dsimp only
      rw [hld, g21]
      by_cases z : C.testBit p = true
      · rw [decide_eq_true hp, z, if_pos (by decide), hha p hp]
      · rw [decide_eq_true hp, Bool.eq_false_iff.mpr z, if_neg (by decide), upL_in hp, if_neg z]
theorem lastI_c {f f' : Nat → Int32} : ∀ n, (∀ t, t < n → f t = f' t) → lastI f n = lastI f' n
  | 0, _ => rfl
  | n + 1, h => by
    unfold lastI
    rw [h n (Nat.lt_succ_self n), lastI_c n (fun t ht => h t (by omega))]
theorem lastI_all {f : Nat → Int32} : ∀ {n : Nat}, ¬ lastI f n = -1 → ∃ t, t < n ∧ lastI f n = nI t ∧ f t = 0 ∧ ∀ u, t < u → u < n → ¬ f u = 0
  | 0, h => absurd rfl h
  | n + 1, h => by
    unfold lastI at h ⊢
    by_cases q : f n = 0
    · rw [if_pos q]
      exact ⟨n, Nat.lt_succ_self n, rfl, q, fun u h1 h2 => absurd h2 (by omega)⟩
    · rw [if_neg q] at h ⊢
      obtain ⟨t, h1, h2, h3, h4⟩ := lastI_all (n := n) h
      refine ⟨t, by omega, h2, h3, fun u h5 h6 => ?_⟩
      by_cases z : u = n
      · subst z; exact q
      · exact h4 u h5 (by omega)
theorem chn_skip {T : Nat → TR} {t : Nat} {h : Nat → Int32} : ∀ n, t ≤ n → (∀ u, t ≤ u → u < n → ¬ (T u).2.2.2.2 = 0) → (chn T n h ↔ chn T t h)
  | 0, h0, _ => by rw [show t = 0 by omega]
  | n + 1, h0, hu => by
    by_cases z : t = n + 1
    · rw [z]
    · rw [← chn_skip n (by omega) (fun u h1 h2 => hu u h1 (by omega))]
      conv => lhs; unfold chn
      rw [if_neg (hu n (by omega) (Nat.lt_succ_self n))]
theorem drpG_cf (g : Nat → Nat → Int32) : ∀ n, n ≤ 10 → drpG g n 3 = upL (g 3) (fun p => decide (g 3 p = g 1 p)) (fun _ => -1) n ∧ drpG g n 4 = upL (g 4) (fun p => decide (g 3 p = g 1 p)) (fun _ => -1) n
  | 0, _ => by simp only [upL_0]; exact ⟨rfl, rfl⟩
  | n + 1, h => by
    obtain ⟨h3, h4⟩ := drpG_cf g n (by omega)
    have h1 : drpG g n 1 = g 1 := drpG_k g 1 (by decide) (by decide) n
    have a3 : drpG g n 3 n = g 3 n := by rw [h3, upL_hi (Nat.le_refl n)]
    have hs : drpG g (n + 1) = if g 3 n = g 1 n then put10 (drpG g n) 2 (nI n) (-1) (-1) else drpG g n := by
      conv => lhs; unfold drpG
      rw [at10_nI (by omega), a3, h1]
    rw [hs]
    by_cases q : g 3 n = g 1 n
    · have q' : (fun p => decide (g 3 p = g 1 p)) n = true := decide_eq_true q
      rw [if_pos q, upL_t q', upL_t q', put_nI (by omega), ← h3, ← h4]
      exact ⟨rfl, rfl⟩
    · have q' : (fun p => decide (g 3 p = g 1 p)) n = false := decide_eq_false q
      rw [if_neg q, upL_f q', upL_f q']
      exact ⟨h3, h4⟩
theorem c_back (h : Iv g T n nP nN nT nW C) : (dBack g T n nP nN nW).1 = (mBack (T0 (dBack g T n nP nN nW).2.1) nP nN nW n).1 ∧ IV (mBack (T0 (dBack g T n nP nN nW).2.1) nP nN nW n).2 (dBack g T n nP nN nW).2.2 n := by
  have hI := h
  obtain ⟨hC, ⟨hP, hN, hT, hU⟩, ⟨hO, hK, hW⟩, hX, hR, hc⟩ := h
  have hP10 := hC.1.2.2
  have hn60 := hC.2.2.2.2.2.2
  have hl : lastI (bk T) n = lastI (g 43) n := lastI_c n (fun t ht => (hR t ht).2.2.2.2.symm)
  unfold dBack
  by_cases q1 : g 25 25 = 0
  · rw [cut_off hX q1, if_neg (by decide)]
    by_cases q2 : lastI (bk T) n = -1
    · rw [if_pos q2]
      unfold mBack
      rw [if_pos (by exact q1), if_pos (by exact hl.symm.trans q2)]
      exact ⟨rfl, hI.iv (EqV.t0 g)⟩
    · rw [if_neg q2]
      obtain ⟨t, ht, et, ht0, hta⟩ := lastI_all q2
      rw [et, nI_clamp (by omega)]
      have eM : lastI (g 43) n = nI t := hl.symm.trans et
      obtain ⟨l1, l2, l3⟩ := hI.ld ht
      obtain ⟨r1, r2, _, r4, r5⟩ := hR t ht
      have hL10 : ldN (T t) < 1024 := Nat.lt_of_lt_of_le l1 (pow_le_1024 (by omega))
      generalize hL : ldN (T t) = L at *
      have hbit : ∀ p, L.testBit p = true → p < (T t).1 := fun p hp => Nat.lt_of_not_le (fun z => by
        rw [Nat.testBit_lt_two_pow (Nat.lt_of_lt_of_le l1 (Nat.pow_le_pow_right (by decide) z))] at hp
        cases hp)
      have hch : (∀ p, p < (T t).1 → L.testBit p = true → g 1 p = (T t).2.2.1 p) ∧ chn T t (brF (g 1) (T t).2.1 L (T t).1) := by
        have := (chn_skip (t := t + 1) n (by omega) (fun u h1 h2 => hta u (by omega) h2)).mp hc
        unfold chn at this
        rw [if_pos ht0, hL] at this
        exact this
      have hstk : fi (pStk g nW L) nP 0 = fi (pStM g nW L) nP 0 := fi_congr nP 0 (fun p _ hp => by
        unfold pStk pStM
        rw [way_eq hW, (hP p (by omega)).1])
      -- the joint state with the train's load brought home
      have hb1 : ∀ p, p < nP → brF (g 1) (T t).2.1 L (T t).1 p = brF (g 26) (fun j => g 41 (10 * t + j)) L nP p := fun p hp => by
        unfold brF
        by_cases z : L.testBit p = true
        · rw [z, decide_eq_true (hbit p z), decide_eq_true hp, if_pos (by decide), if_pos (by decide)]
          exact (r4 p (hbit p z)).1.symm
        · rw [Bool.eq_false_iff.mpr z, Bool.and_false, Bool.and_false, if_neg (by decide), if_neg (by decide)]
          exact (hP p hp).1
      unfold dBackT
      rw [hL, hstk]
      by_cases q3 : fi (pStM g nW L) nP 0 = -1
      · rw [if_pos q3]
        generalize hJ : va_up (va_up g 1 (brF (g 1) (T t).2.1 L (T t).1)) 26 (brF (g 26) (fun j => g 41 (10 * t + j)) L nP) = J
        have jP : IvP J nP := fun p hp => by
          rw [← hJ]
          exact ⟨hb1 p hp, (hP p hp).2⟩
        have jN : IvN J nP nN := by rw [← hJ]; exact hN
        have h0 : OfS J nP 0 := fun p hp => by rw [Nat.zero_testBit] at hp; cases hp
        have hbz : brkD (wTo (dBk1 g (T t)) nN) nN 0 = mBrk J nN 0 := by
          have hz : brkD (wTo J nN) nN 0 = mBrk J nN 0 := brk_eq (S := 0) jP jN hP10 (by decide) h0
          rw [← hz, ← hJ]
          unfold dBk1
          rw [hL]
          rfl
        rw [hbz]
        by_cases q4 : mBrk J nN 0 = -1
        · rw [if_pos q4]
          dsimp only
          have dk1 : dBk1 g (T t) = va_up g 1 (brF (g 1) (T t).2.1 L (T t).1) := by unfold dBk1; rw [hL]
          generalize hg1 : drpG (wTo (dBk1 g (T t)) nN) nP = g1
          obtain ⟨c3, c4⟩ := drpG_cf (wTo (dBk1 g (T t)) nN) nP hP10
          rw [hg1, wTo_k (by decide) (by decide), wTo_k (by decide) (by decide), dk1] at c3 c4
          have e3 : g1 3 = upL (g 3) (fun p => decide (g 3 p = brF (g 1) (T t).2.1 L (T t).1 p)) (fun _ => -1) nP := c3
          have e4 : g1 4 = upL (g 4) (fun p => decide (g 3 p = brF (g 1) (T t).2.1 L (T t).1 p)) (fun _ => -1) nP := by
            rw [c4, wTo_k (by decide) (by decide)]
            rfl
          have ek : ∀ k, k ≠ 1 → k ≠ 3 → k ≠ 4 → k ≠ 14 → k ≠ 15 → g1 k = g k := fun k h1 h3 h4 h14 h15 => by
            rw [← hg1, drpG_k _ k h3 h4, wTo_k h14 h15, dk1, va_up_ne _ _ h1]
          have e1 : g1 1 = brF (g 1) (T t).2.1 L (T t).1 := by
            rw [← hg1, drpG_k _ 1 (by decide) (by decide), wTo_k (by decide) (by decide), dk1]
            rfl
          have m25 : ∀ j, j ≠ 0 → T0 g1 25 j = g 25 j := fun j hj => by
            show upd (g1 25) 0 0 j = _
            rw [pk_un hj, ek 25 (by decide) (by decide) (by decide) (by decide) (by decide)]
          have mk : ∀ k, 26 ≤ k → T0 g1 k = g k := fun k hk => by
            rw [T0_k (by omega), ek k (by omega) (by omega) (by omega) (by omega) (by omega)]
          have hbm : mBrk (mB1 (T0 g1) t L nP) nN 0 = mBrk J nN 0 := RD.brk (g := J) (g' := mB1 (T0 g1) t L nP) (by
            refine ⟨?_, ?_, ?_, ?_, ?_, ?_, ?_⟩
            · show brF (T0 g1 26) (fun j => T0 g1 41 (10 * t + j)) L nP = J 26
              rw [mk 26 (by decide), mk 41 (by decide), ← hJ]
              rfl
            · exact (mk 27 (by decide)).trans (by rw [← hJ]; rfl)
            · exact (mk 31 (by decide)).trans (by rw [← hJ]; rfl)
            · exact (mk 32 (by decide)).trans (by rw [← hJ]; rfl)
            · exact (mk 33 (by decide)).trans (by rw [← hJ]; rfl)
            · exact (mk 34 (by decide)).trans (by rw [← hJ]; rfl)
            · exact (mk 35 (by decide)).trans (by rw [← hJ]; rfl)) nN 0
          have hmB : mBack (T0 g1) nP nN nW n = (nI t, va_up (mB5 (mB1 (T0 g1) t L nP) L nP) 43 (upd (T0 g1 43) t 1)) := by
            unfold mBack
            rw [if_pos (show T0 g1 25 25 = 0 by rw [m25 25 (by decide)]; exact q1), mk 43 (by decide), eM, if_neg (nI_ne_m1 (show t < 2 ^ 31 by omega)), nI_clamp (show t < 2 ^ 31 by omega), mk 40 (by decide), l3, nI_clamp (show L < 2 ^ 31 by omega)]
            unfold mBackT
            have hs : pStM (T0 g1) nW L = pStM g nW L := by
              funext p
              unfold pStM mWay
              rw [mk 26 (by decide), mk 37 (by decide), mk 38 (by decide)]
            rw [hs, if_pos q3, hbm, if_pos q4, mk 43 (by decide)]
          rw [hmB]
          refine ⟨rfl, ?_⟩
          dsimp only
          generalize hg2 : va_up (mB5 (mB1 (T0 g1) t L nP) L nP) 43 (upd (T0 g1 43) t 1) = g2
          have f43 : g2 43 = upd (g 43) t 1 := by rw [← hg2, va_up_self, mk 43 (by decide)]
          have f26 : g2 26 = brF (g 26) (fun j => g 41 (10 * t + j)) L nP := by
            rw [← hg2]
            show brF (T0 g1 26) (fun j => T0 g1 41 (10 * t + j)) L nP = _
            rw [mk 26 (by decide), mk 41 (by decide)]
          have f27 : g2 27 = doF (g 27) (brF (g 26) (fun j => g 41 (10 * t + j)) L nP) L nP := by
            rw [← hg2]
            show doF (T0 g1 27) (brF (T0 g1 26) (fun j => T0 g1 41 (10 * t + j)) L nP) L nP = _
            rw [mk 26 (by decide), mk 41 (by decide), mk 27 (by decide)]
          have fk : ∀ k, k ≠ 26 → k ≠ 27 → k ≠ 43 → g2 k = T0 g1 k := fun k h1 h2 h3 => by
            rw [← hg2, va_up_ne _ _ h3]
            unfold mB5 mB1
            rw [va_up_ne _ _ h2, va_up_ne _ _ h1]
          have fd : ∀ k, k < 25 → g2 k = g1 k := fun k hk => (fk k (by omega) (by omega) (by omega)).trans (T0_k (by omega))
          have fm : ∀ k, 28 ≤ k → k ≠ 43 → g2 k = g k := fun k h1 h2 => (fk k (by omega) (by omega) h2).trans (mk k (by omega))
          have f25 : ∀ j, j ≠ 0 → g2 25 j = g 25 j := fun j hj => by rw [fk 25 (by decide) (by decide) (by decide)]; exact m25 j hj
          have fg : ∀ k, k < 25 → k ≠ 1 → k ≠ 3 → k ≠ 4 → k ≠ 14 → k ≠ 15 → g2 k = g k := fun k h0 h1 h3 h4 h14 h15 => (fd k h0).trans (ek k h1 h3 h4 h14 h15)
          have f1 : g2 1 = brF (g 1) (T t).2.1 L (T t).1 := (fd 1 (by decide)).trans e1
          have f3 : g2 3 = upL (g 3) (fun p => decide (g 3 p = brF (g 1) (T t).2.1 L (T t).1 p)) (fun _ => -1) nP := (fd 3 (by decide)).trans e3
          have f4 : g2 4 = upL (g 4) (fun p => decide (g 3 p = brF (g 1) (T t).2.1 L (T t).1 p)) (fun _ => -1) nP := (fd 4 (by decide)).trans e4
          have hTl : ∀ u, (bkS T t u).1 = (T u).1 ∧ (bkS T t u).2.1 = (T u).2.1 ∧ (bkS T t u).2.2.1 = (T u).2.2.1 ∧ (bkS T t u).2.2.2.1 = (T u).2.2.2.1 ∧ (bkS T t u).2.2.2.2 = if u = t then 1 else (T u).2.2.2.2 := fun u => by
            unfold bkS
            by_cases z : u = t
            · subst z
              rw [if_pos rfl, if_pos rfl]
              exact ⟨rfl, rfl, rfl, rfl, rfl⟩
            · rw [if_neg z, if_neg z]
              exact ⟨rfl, rfl, rfl, rfl, rfl⟩
          refine ⟨nP, nN, nT, nW, C, ?_, ⟨fun p hp => ?_, ?_, ?_, fun p hp hq => ?_⟩, ⟨fun p hp => ?_, ?_, ?_⟩, ⟨hX.1, (f25 24 (by decide)).trans hX.2.1, Or.inl ⟨by rw [fg 0 (by decide) (by decide) (by decide) (by decide) (by decide) (by decide)]; exact hX.off q1, (f25 25 (by decide)).trans q1⟩⟩, fun u hu => ?_, ?_⟩
          · unfold IvC
            rw [fg 0 (by decide) (by decide) (by decide) (by decide) (by decide) (by decide), fg 8 (by decide) (by decide) (by decide) (by decide) (by decide) (by decide), fg 16 (by decide) (by decide) (by decide) (by decide) (by decide) (by decide), fg 21 (by decide) (by decide) (by decide) (by decide) (by decide) (by decide), fg 24 (by decide) (by decide) (by decide) (by decide) (by decide) (by decide), f25 19 (by decide), f25 20 (by decide), f25 21 (by decide), f25 22 (by decide), f25 23 (by decide)]
            exact hC
          · rw [f1, f3, f26, f27]
            refine ⟨hb1 p hp, ?_⟩
            rw [upL_in hp]
            unfold doF
            rw [decide_eq_true hp, Bool.true_and, ← hb1 p hp, ← (hP p hp).2]
            by_cases z : L.testBit p = true
            · rw [z, Bool.true_and]
            · rw [Bool.eq_false_iff.mpr z, Bool.false_and, if_neg (show ¬ (false = true) by decide)]
              by_cases z2 : g 3 p = -1
              · rw [z2]
                split <;> rfl
              · rw [if_neg]
                intro z3
                have z4 : brF (g 1) (T t).2.1 L (T t).1 p = g 1 p := by
                  unfold brF
                  rw [Bool.eq_false_iff.mpr z, Bool.and_false, if_neg (by decide)]
                have z5 := of_decide_eq_true z3
                rw [z4] at z5
                exact (hO p (by omega)).2.2.1 z2 z5
          · unfold IvN
            rw [fg 9 (by decide) (by decide) (by decide) (by decide) (by decide) (by decide), fg 10 (by decide) (by decide) (by decide) (by decide) (by decide) (by decide), fg 11 (by decide) (by decide) (by decide) (by decide) (by decide) (by decide), fg 12 (by decide) (by decide) (by decide) (by decide) (by decide) (by decide), fg 13 (by decide) (by decide) (by decide) (by decide) (by decide) (by decide), fm 31 (by decide) (by decide), fm 32 (by decide) (by decide), fm 33 (by decide) (by decide), fm 34 (by decide) (by decide), fm 35 (by decide) (by decide)]
            exact hN
          · unfold IvT
            rw [fg 17 (by decide) (by decide) (by decide) (by decide) (by decide) (by decide), fm 36 (by decide) (by decide)]
            exact hT
          · rw [f3, upL_in hp] at hq
            rw [f4, upL_in hp, fm 28 (by decide) (by decide)]
            by_cases z : (fun p => decide (g 3 p = brF (g 1) (T t).2.1 L (T t).1 p)) p = true
            · rw [if_pos z] at hq
              exact absurd rfl hq
            · rw [if_neg z] at hq ⊢
              exact hU p hp hq
          · have hop := hO p hp
            rw [f1, f3, f4, fg 6 (by decide) (by decide) (by decide) (by decide) (by decide) (by decide), fg 7 (by decide) (by decide) (by decide) (by decide) (by decide) (by decide)]
            by_cases z2 : p < nP
            · rw [upL_in z2, upL_in z2]
              by_cases z : (fun p => decide (g 3 p = brF (g 1) (T t).2.1 L (T t).1 p)) p = true
              · rw [if_pos z, if_pos z]
                exact ⟨fun z => absurd z (by omega), fun _ => rfl, fun z => absurd rfl z, hop.2.2.2⟩
              · rw [if_neg z, if_neg z]
                exact ⟨fun z => absurd z (by omega), hop.2.1, fun _ => of_decide_eq_false (Bool.eq_false_iff.mpr z), hop.2.2.2⟩
            · rw [upL_hi (by omega), upL_hi (by omega)]
              exact ⟨hop.1, hop.2.1, fun z => absurd (hop.1 (by omega)).1 z, hop.2.2.2⟩
          · unfold IvK
            rw [fg 6 (by decide) (by decide) (by decide) (by decide) (by decide) (by decide), fg 7 (by decide) (by decide) (by decide) (by decide) (by decide) (by decide), fm 29 (by decide) (by decide), fm 30 (by decide) (by decide)]
            exact hK
          · unfold IvW
            rw [fg 22 (by decide) (by decide) (by decide) (by decide) (by decide) (by decide), fg 23 (by decide) (by decide) (by decide) (by decide) (by decide) (by decide), fm 37 (by decide) (by decide), fm 38 (by decide) (by decide)]
            exact hW
          · obtain ⟨b1, b2, b3, b4, b5⟩ := hTl u
            rw [b1, b2, b3, b4, b5, fm 39 (by decide) (by decide), fm 40 (by decide) (by decide), fm 41 (by decide) (by decide), fm 42 (by decide) (by decide), f43]
            obtain ⟨w1, w2, w3, w4, w5⟩ := hR u hu
            refine ⟨w1, w2, w3, w4, ?_⟩
            by_cases z : u = t
            · subst z
              rw [if_pos rfl, pk_us]
            · rw [if_neg z, pk_un z]
              exact w5
          · rw [f1]
            refine (chn_skip (t := t) n (by omega) (fun u h1 h2 => ?_)).mpr (chn_T t _ (fun u hu => ?_) hch.2)
            · rw [(hTl u).2.2.2.2]
              by_cases z : u = t
              · rw [if_pos z]; decide
              · rw [if_neg z]
                exact hta u (by omega) h2
            · unfold bkS
              rw [if_neg (by omega)]
        · rw [if_neg q4]
          dsimp only
          have dk1 : dBk1 g (T t) = va_up g 1 (brF (g 1) (T t).2.1 L (T t).1) := by unfold dBk1; rw [hL]
          generalize hg1 : dBk2 (wTo (dBk1 g (T t)) nN) (T t) = g1
          have e1 : EqV g g1 := by
            rw [← hg1]
            unfold dBk2
            rw [hL, wTo_k (by decide) (by decide), dk1]
            refine ⟨fun k h0 h14 h15 h20 h24 h25 => ?_, rfl, fun _ _ _ => rfl⟩
            by_cases z : k = 1
            · subst z
              show brF (brF (g 1) (T t).2.1 L (T t).1) (T t).2.2.1 L (T t).1 = g 1
              funext p
              unfold brF
              by_cases z2 : (decide (p < (T t).1) && L.testBit p) = true
              · rw [if_pos z2]
                rw [Bool.and_eq_true, decide_eq_true_eq] at z2
                exact (hch.1 p z2.1 z2.2).symm
              · rw [if_neg z2, if_neg z2]
            · rw [va_up_ne _ _ z, wTo_k h14 h15, va_up_ne _ _ z]
          have e2 := e1.tr (EqV.t0 g1)
          have mk : ∀ k, 26 ≤ k → k < 44 → T0 g1 k = g k := fun k h1 h2 => e2.at k (by simp only [Bool.and_eq_true, Bool.not_eq_true', decide_eq_true_eq, decide_eq_false_iff_not]; omega)
          have hbm : mBrk (mB1 (T0 g1) t L nP) nN 0 = mBrk J nN 0 := RD.brk (g := J) (g' := mB1 (T0 g1) t L nP) (by
            refine ⟨?_, ?_, ?_, ?_, ?_, ?_, ?_⟩
            · show brF (T0 g1 26) (fun j => T0 g1 41 (10 * t + j)) L nP = J 26
              rw [mk 26 (by decide) (by decide), mk 41 (by decide) (by decide), ← hJ]
              rfl
            · exact (mk 27 (by decide) (by decide)).trans (by rw [← hJ]; rfl)
            · exact (mk 31 (by decide) (by decide)).trans (by rw [← hJ]; rfl)
            · exact (mk 32 (by decide) (by decide)).trans (by rw [← hJ]; rfl)
            · exact (mk 33 (by decide) (by decide)).trans (by rw [← hJ]; rfl)
            · exact (mk 34 (by decide) (by decide)).trans (by rw [← hJ]; rfl)
            · exact (mk 35 (by decide) (by decide)).trans (by rw [← hJ]; rfl)) nN 0
          have hmB : mBack (T0 g1) nP nN nW n = (-1, mB4 (mB1 (T0 g1) t L nP) (T0 g1 26) nP) := by
            unfold mBack
            rw [if_pos (show T0 g1 25 25 = 0 by rw [e2.cut]; exact q1), mk 43 (by decide) (by decide), eM, if_neg (nI_ne_m1 (show t < 2 ^ 31 by omega)), nI_clamp (show t < 2 ^ 31 by omega), mk 40 (by decide) (by decide), l3, nI_clamp (show L < 2 ^ 31 by omega)]
            unfold mBackT
            have hs : pStM (T0 g1) nW L = pStM g nW L := by
              funext p
              unfold pStM mWay
              rw [mk 26 (by decide) (by decide), mk 37 (by decide) (by decide), mk 38 (by decide) (by decide)]
            rw [hs, if_pos q3, hbm, if_neg q4]
          rw [hmB]
          refine ⟨rfl, hI.iv (e2.tr ⟨fun k h0 h14 h15 h20 h24 h25 => ?_, rfl, fun _ _ _ => rfl⟩)⟩
          unfold mB4 mB1
          by_cases z : k = 26
          · subst z
            show rsF (T0 g1 26) (brF (T0 g1 26) (fun j => T0 g1 41 (10 * t + j)) L nP) nP = T0 g1 26
            funext p
            unfold rsF brF
            by_cases z2 : p < nP
            · rw [if_pos z2]
            · rw [if_neg z2, decide_eq_false z2, Bool.false_and, if_neg (by decide)]
          · dsimp only
            rw [va_up_ne _ _ z, va_up_ne _ _ z]
      · rw [if_neg q3]
        have e2 := EqV.t0 g
        unfold mBack
        rw [if_pos (by exact q1)]
        dsimp only
        rw [e2.at 43 (by decide), eM, if_neg (nI_ne_m1 (show t < 2 ^ 31 by omega)), nI_clamp (show t < 2 ^ 31 by omega), e2.at 40 (by decide), l3, nI_clamp (show L < 2 ^ 31 by omega)]
        unfold mBackT
        rw [if_neg (by exact q3)]
        exact ⟨rfl, hI.iv e2⟩
  · rw [cut_on hX q1, if_pos rfl]
    unfold mBack
    rw [if_neg (by exact q1)]
    exact ⟨rfl, hI.iv (EqV.t0 g)⟩
end INV5
