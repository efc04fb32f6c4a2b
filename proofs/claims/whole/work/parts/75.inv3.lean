/-! ===== calls that add or take away ===== -/
section INV3
variable {g g' : Nat → Nat → Int32} {T : Nat → TR} {n nP nN nT nW C : Nat}
theorem dPart_b (v : Int32) : dPart g v = if ((!cutB g && (!decide (10 ≤ g 0 9) && isVer v))) = true then (g 0 9 + 1 - 1, va_up (va_up g 1 (upd (g 1) (g 0 9).toNatClampNeg v)) 0 (upd (g 0) 9 (g 0 9 + 1))) else (-1, g) := by
  unfold dPart
  by_cases q0 : cutB g = true
  · rw [if_pos q0, q0, Bool.not_true, Bool.false_and, if_neg (by decide)]
  rw [if_neg q0, Bool.eq_false_iff.mpr q0, Bool.not_false, Bool.true_and]
  by_cases q1 : 10 ≤ g 0 9
  · rw [if_pos q1, decide_eq_true q1, Bool.not_true, Bool.false_and, if_neg (by decide)]
  rw [if_neg q1, decide_eq_false q1, Bool.not_false, Bool.true_and]
theorem mPart_b (v : Int32) : mPart g v = if ((decide (g 25 25 = 0) && (!decide (g 25 19 = 10) && isInB v 0 1000))) = true then (g 25 19 + 1 - 1, va_up (va_up (va_up (va_up g 26 (upd (g 26) (g 25 19).toNatClampNeg v)) 27 (upd (g 27) (g 25 19).toNatClampNeg (-1))) 29 (upd (g 29) (g 25 19).toNatClampNeg (-1))) 25 (upd (g 25) 19 (g 25 19 + 1))) else (-1, g) := by
  unfold mPart
  by_cases q0 : g 25 25 = 0
  rotate_left
  · rw [if_neg q0, decide_eq_false q0, Bool.false_and, if_neg (by decide)]
  rw [if_pos q0, decide_eq_true q0, Bool.true_and]
  by_cases q1 : g 25 19 = 10
  · rw [if_pos q1, decide_eq_true q1, Bool.not_true, Bool.false_and, if_neg (by decide)]
  rw [if_neg q1, decide_eq_false q1, Bool.not_false, Bool.true_and]
theorem mNeed_b (p v o lo hi : Int32) : mNeed g p v o lo hi = if ((decide (g 25 25 = 0) && (!decide (g 25 20 = 30) && (mIsPt g p && (mIsPt g o && (!decide (p = o) && (isInB v 0 1000 && (isInB lo 0 1000 && isInB hi lo 1000)))))))) = true then (g 25 20 + 1 - 1, mAddNeed g p v o lo hi) else (-1, g) := by
  unfold mNeed
  by_cases q0 : g 25 25 = 0
  rotate_left
  · rw [if_neg q0, decide_eq_false q0, Bool.false_and, if_neg (by decide)]
  rw [if_pos q0, decide_eq_true q0, Bool.true_and]
  by_cases q1 : g 25 20 = 30
  · rw [if_pos q1, decide_eq_true q1, Bool.not_true, Bool.false_and, if_neg (by decide)]
  rw [if_neg q1, decide_eq_false q1, Bool.not_false, Bool.true_and]
  by_cases q2 : mIsPt g p = true
  rotate_left
  · rw [if_neg q2, Bool.eq_false_iff.mpr q2, Bool.false_and, if_neg (by decide)]
  rw [if_pos q2, q2, Bool.true_and]
  by_cases q3 : mIsPt g o = true
  rotate_left
  · rw [if_neg q3, Bool.eq_false_iff.mpr q3, Bool.false_and, if_neg (by decide)]
  rw [if_pos q3, q3, Bool.true_and]
  by_cases q4 : p = o
  · rw [if_pos q4, decide_eq_true q4, Bool.not_true, Bool.false_and, if_neg (by decide)]
  rw [if_neg q4, decide_eq_false q4, Bool.not_false, Bool.true_and]
  by_cases q5 : isInB v 0 1000 = true
  rotate_left
  · rw [if_neg q5, Bool.eq_false_iff.mpr q5, Bool.false_and, if_neg (by decide)]
  rw [if_pos q5, q5, Bool.true_and]
  by_cases q6 : isInB lo 0 1000 = true
  rotate_left
  · rw [if_neg q6, Bool.eq_false_iff.mpr q6, Bool.false_and, if_neg (by decide)]
  rw [if_pos q6, q6, Bool.true_and]
theorem dNeed_b (p v o lo hi : Int32) : dNeed g p v o lo hi = if ((!cutB g && (isPt g p && (isPt g o && (!decide (p = o) && (isVer v && (isVer lo && (isVer hi && decide (lo ≤ hi))))))))) = true then (if g 8 7 < 30 then g 8 7 + 1 - 1 else -1, if g 8 7 < 30 then addNeed g p v o lo hi else g) else (-1, g) := by
  unfold dNeed
  by_cases q0 : cutB g = true
  · rw [if_pos q0, q0, Bool.not_true, Bool.false_and, if_neg (by decide)]
  rw [if_neg q0, Bool.eq_false_iff.mpr q0, Bool.not_false, Bool.true_and]
  by_cases q1 : isPt g p = true
  rotate_left
  · rw [if_neg q1, Bool.eq_false_iff.mpr q1, Bool.false_and, if_neg (by decide)]
  rw [if_pos q1, q1, Bool.true_and]
  by_cases q2 : isPt g o = true
  rotate_left
  · rw [if_neg q2, Bool.eq_false_iff.mpr q2, Bool.false_and, if_neg (by decide)]
  rw [if_pos q2, q2, Bool.true_and]
  by_cases q3 : p = o
  · rw [if_pos q3, decide_eq_true q3, Bool.not_true, Bool.false_and, if_neg (by decide)]
  rw [if_neg q3, decide_eq_false q3, Bool.not_false, Bool.true_and]
  by_cases q4 : isVer v = true
  rotate_left
  · rw [if_neg q4, Bool.eq_false_iff.mpr q4, Bool.false_and, if_neg (by decide)]
  rw [if_pos q4, q4, Bool.true_and]
  by_cases q5 : isVer lo = true
  rotate_left
  · rw [if_neg q5, Bool.eq_false_iff.mpr q5, Bool.false_and, if_neg (by decide)]
  rw [if_pos q5, q5, Bool.true_and]
  by_cases q6 : isVer hi = true
  rotate_left
  · rw [if_neg q6, Bool.eq_false_iff.mpr q6, Bool.false_and, if_neg (by decide)]
  rw [if_pos q6, q6, Bool.true_and]
  by_cases q7 : lo ≤ hi
  rotate_left
  · rw [if_neg q7, decide_eq_false q7, if_neg (by decide)]
  rw [if_pos q7, decide_eq_true q7]
  rw [if_pos rfl]
theorem mTest_b (set : Int32) : mTest g set = if ((decide (g 25 25 = 0) && (!decide (g 25 21 = 12) && (mSetB g set && !decide (set = 0))))) = true then (g 25 21 + 1 - 1, va_up (va_up g 36 (upd (g 36) (g 25 21).toNatClampNeg set)) 25 (upd (g 25) 21 (g 25 21 + 1))) else (-1, g) := by
  unfold mTest
  by_cases q0 : g 25 25 = 0
  rotate_left
  · rw [if_neg q0, decide_eq_false q0, Bool.false_and, if_neg (by decide)]
  rw [if_pos q0, decide_eq_true q0, Bool.true_and]
  by_cases q1 : g 25 21 = 12
  · rw [if_pos q1, decide_eq_true q1, Bool.not_true, Bool.false_and, if_neg (by decide)]
  rw [if_neg q1, decide_eq_false q1, Bool.not_false, Bool.true_and]
  by_cases q2 : mSetB g set = true
  rotate_left
  · rw [if_neg q2, Bool.eq_false_iff.mpr q2, Bool.false_and, if_neg (by decide)]
  rw [if_pos q2, q2, Bool.true_and]
  by_cases q3 : set = 0
  · rw [if_pos q3, decide_eq_true q3, Bool.not_true, if_neg (by decide)]
  rw [if_neg q3, decide_eq_false q3, Bool.not_false]
  rw [if_pos rfl]
theorem dTest_b (set : Int32) : dTest g set = if ((!cutB g && (!decide (set = 0) && areP g set))) = true then (if g 16 1 < 12 then g 16 1 + 1 - 1 else -1, if g 16 1 < 12 then addTest g set else g) else (-1, g) := by
  unfold dTest
  by_cases q0 : cutB g = true
  · rw [if_pos q0, q0, Bool.not_true, Bool.false_and, if_neg (by decide)]
  rw [if_neg q0, Bool.eq_false_iff.mpr q0, Bool.not_false, Bool.true_and]
  by_cases q1 : set = 0
  · rw [if_pos q1, decide_eq_true q1, Bool.not_true, Bool.false_and, if_neg (by decide)]
  rw [if_neg q1, decide_eq_false q1, Bool.not_false, Bool.true_and]
theorem IvX.to (h : IvX g nP nN C) (e : RD g g') (e3 : g' 3 = g 3) (e0 : g' 0 10 = g 0 10) (e24 : g' 25 24 = g 25 24) (e25 : g' 25 25 = g 25 25) (e18 : g' 18 = g 18) (e19 : g' 19 = g 19) : IvX g' nP nN C := by
  unfold IvX OfS FitR
  rw [e0, e3, e24, e25, e.brk]
  refine ⟨h.1, h.2.1, ?_⟩
  rcases h.2.2 with q | ⟨q1, q2, q3, q4, q5⟩
  · exact Or.inl q
  · exact Or.inr ⟨q1, q2, q3, q4, q5.to (fun s => e.brk nN s) e25 e18 e19⟩
theorem in_n {u a : Int32} (ha : a = 0 ∨ a = 1) (h : isInB u a 1000 = true) : ∃ k : Nat, k ≤ 1000 ∧ u = nI k := by
  unfold isInB at h
  rw [Bool.and_eq_true, Bool.not_eq_true', Bool.not_eq_true', decide_eq_false_iff_not, decide_eq_false_iff_not] at h
  refine nI_of2 (M := 1000) (n := 1000) rfl ?_ (Int32.not_lt.mp h.2)
  rcases ha with rfl | rfl
  · exact h.1
  · intro z
    apply h.1
    rw [Int32.lt_iff_toInt_lt] at z ⊢
    rw [show (0 : Int32).toInt = 0 from rfl] at z
    rw [show (1 : Int32).toInt = 1 from rfl]
    omega
theorem ver_m1 {v : Int32} (h : isInB v 0 1000 = true) : ¬ v = -1 := by
  obtain ⟨k, hk, rfl⟩ := in_n (Or.inl rfl) h
  exact nI_ne_m1 (by omega)
theorem Iv.iv (h : Iv g T n nP nN nT nW C) (e : EqV g g') : IV g' T n := ⟨nP, nN, nT, nW, C, h.to e⟩
theorem c_part (h : Iv g T n nP nN nT nW C) (v : Int32) : (dPart g v).1 = (mPart (T0 (dPart g v).2) v).1 ∧ IV (mPart (T0 (dPart g v).2) v).2 T n := by
  have hI := h
  obtain ⟨hC, ⟨hP, hN, hT, hU⟩, ⟨hO, hK, hW⟩, hX, hR, hc⟩ := h
  have hP10 := hC.1.2.2
  have hb : (decide (g 25 25 = 0) && (!decide (g 25 19 = 10) && isInB v 0 1000)) = (!cutB g && (!decide (10 ≤ g 0 9) && isVer v)) := by
    rw [cut_eq hX, Bool.not_not, hC.1.1, hC.1.2.1]
    congr 2
    congr 1
    exact decide_eq_decide.mpr ((nI_eq (b := 10) (by omega) (by decide)).trans (Iff.trans (show nP = 10 ↔ 10 ≤ nP by omega) (nI_leI (a := 10) (by decide) (by omega)).symm))
  rw [dPart_b]
  by_cases q : (!cutB g && (!decide (10 ≤ g 0 9) && isVer v)) = true
  · rw [if_pos q, mPart_b]
    rw [← hb] at q
    rw [if_pos (by exact q)]
    rw [Bool.and_eq_true, Bool.and_eq_true, decide_eq_true_eq, Bool.not_eq_true', decide_eq_false_iff_not] at q
    obtain ⟨q1, q2, q3⟩ := q
    have hlt : nP < 10 := by
      rcases Nat.lt_or_ge nP 10 with z | z
      · exact z
      · exact absurd (by rw [hC.1.2.1, show nP = 10 by omega]; rfl) q2
    have c0 : (g 0 9).toNatClampNeg = nP := by rw [hC.1.1, nI_clamp (by omega)]
    have c1 : (g 25 19).toNatClampNeg = nP := by rw [hC.1.2.1, nI_clamp (by omega)]
    have hop := hO nP hlt
    refine ⟨by show g 0 9 + 1 - 1 = g 25 19 + 1 - 1; rw [hC.1.1, hC.1.2.1], ⟨nP + 1, nN, nT, nW, C, ⟨⟨?_, ?_, by omega⟩, hC.2⟩, ⟨?_, ?_, ?_, ?_⟩, ⟨?_, ?_, hW⟩, ⟨hX.1, hX.2.1, Or.inl ⟨hX.off q1, q1⟩⟩, ?_, ?_⟩⟩
    · show g 0 9 + 1 = nI (nP + 1)
      rw [hC.1.1, nI_1]
    · show g 25 19 + 1 = nI (nP + 1)
      rw [hC.1.2.1, nI_1]
    · intro p hp
      show upd (g 1) (g 0 9).toNatClampNeg v p = upd (g 26) (g 25 19).toNatClampNeg v p ∧ g 3 p = upd (g 27) (g 25 19).toNatClampNeg (-1) p
      rw [c0, c1]
      by_cases z : p = nP
      · subst z
        rw [pk_us, pk_us, pk_us]
        exact ⟨rfl, (hop.1 (Nat.le_refl _)).1⟩
      · rw [pk_un z, pk_un z, pk_un z]
        exact hP p (by omega)
    · intro k hk
      obtain ⟨p, o, h1, h2, h3⟩ := hN k hk
      exact ⟨p, o, by omega, by omega, h3⟩
    · intro k hk
      obtain ⟨F, h1, h2⟩ := hT k hk
      exact ⟨F, Nat.lt_of_lt_of_le h1 (Nat.pow_le_pow_right (by decide) (by omega)), h2⟩
    · intro p hp hq
      by_cases z : p = nP
      · subst z
        exact absurd (hop.1 (Nat.le_refl _)).1 hq
      · exact hU p (by omega) hq
    · intro p hp
      have ho := hO p hp
      refine ⟨fun z => ho.1 (by omega), ho.2.1, fun z => ?_, ho.2.2.2⟩
      show ¬ g 3 p = upd (g 1) (g 0 9).toNatClampNeg v p
      rw [c0]
      by_cases z2 : p = nP
      · subst z2
        exact absurd (hop.1 (Nat.le_refl _)).1 z
      · rw [pk_un z2]
        exact ho.2.2.1 z
    · intro p hp
      show g 6 p = upd (g 29) (g 25 19).toNatClampNeg (-1) p ∧ (¬ g 6 p = -1 → _)
      rw [c1]
      by_cases z : p = nP
      · subst z
        rw [pk_us]
        exact ⟨(hop.1 (Nat.le_refl _)).2, fun z => absurd (hop.1 (Nat.le_refl _)).2 z⟩
      · rw [pk_un z]
        exact hK p (by omega)
    · intro t ht
      obtain ⟨h1, h2⟩ := hR t ht
      exact ⟨by omega, h2⟩
    · refine chn_congr (m := nP) n _ _ (fun t ht => (hR t ht).1) (fun p hp => ?_) hc
      show g 1 p = upd (g 1) (g 0 9).toNatClampNeg v p
      rw [c0, pk_un (by omega)]
  · rw [if_neg q, mPart_b]
    rw [← hb] at q
    rw [if_neg (by exact q)]
    exact ⟨rfl, hI.iv (EqV.t0 g)⟩
theorem put_nI {b j : Nat} (hj : j < 10) (v u : Int32) : put10 g b (nI j) v u = va_up (va_up g (b + 1) (upd (g (b + 1)) j v)) (b + 2) (upd (g (b + 2)) j u) := by
  unfold put10
  rw [if_neg (nI_pos (by omega)), if_neg (show ¬ (10 : Int32) ≤ nI j from fun z => absurd (leK (a := 10) (b := j) (by decide) (by omega) z) (by omega)), nI_clamp (by omega)]
/-- one offer is put or dropped -/
theorem off_put (hP : IvP g nP) (hU : IvU g nP) (hO : IvO g nP) {j : Nat} (hj : j < nP) {v u : Int32} (hv : (v = -1 ∧ u = -1) ∨ (¬ v = -1 ∧ ¬ v = g 1 j ∧ g' 28 j = u ∧ ∃ k : Nat, k ≤ 1000 ∧ u = nI k)) (e1 : g' 1 = g 1) (e26 : g' 26 = g 26) (e3 : g' 3 = upd (g 3) j v) (e4 : g' 4 = upd (g 4) j u) (e27 : g' 27 = upd (g 27) j v) (e28 : ∀ q, ¬ q = j → g' 28 q = g 28 q) (e6 : g' 6 = g 6) (e7 : g' 7 = g 7) : IvP g' nP ∧ IvU g' nP ∧ IvO g' nP := by
  refine ⟨fun p hp => ?_, fun p hp hq => ?_, fun p hp => ?_⟩
  · rw [e1, e26, e3, e27]
    by_cases z : p = j
    · subst z
      rw [pk_us, pk_us]
      exact ⟨(hP p hp).1, rfl⟩
    · rw [pk_un z, pk_un z]
      exact hP p hp
  · rw [e3] at hq
    rw [e4]
    by_cases z : p = j
    · subst z
      rw [pk_us] at hq ⊢
      rcases hv with ⟨h1, _⟩ | ⟨_, _, h2, h3⟩
      · exact absurd h1 hq
      · exact ⟨h3, h2.symm⟩
    · rw [pk_un z] at hq ⊢
      rw [e28 p z]
      exact hU p hp hq
  · have ho := hO p hp
    rw [e1, e3, e4, e6, e7]
    by_cases z : p = j
    · subst z
      rw [pk_us, pk_us]
      refine ⟨fun z => absurd z (by omega), fun z => ?_, fun z => ?_, ho.2.2.2⟩
      · rcases hv with h1 | h1
        · exact h1.2
        · exact absurd z h1.1
      · rcases hv with h1 | h1
        · exact absurd h1.1 z
        · exact h1.2.1
    · rw [pk_un z, pk_un z]
      exact ho
theorem kept_put (hO : IvO g nP) (hK : IvK g nP) {j : Nat} (hj : j < nP) {v u : Int32} (hv : (v = -1 ∧ u = -1) ∨ (¬ v = -1 ∧ g' 30 j = u ∧ ∃ k : Nat, k ≤ 1000 ∧ u = nI k)) (e1 : g' 1 = g 1) (e3 : g' 3 = g 3) (e4 : g' 4 = g 4) (e6 : g' 6 = upd (g 6) j v) (e7 : g' 7 = upd (g 7) j u) (e29 : g' 29 = upd (g 29) j v) (e30 : ∀ q, ¬ q = j → g' 30 q = g 30 q) : IvO g' nP ∧ IvK g' nP := by
  refine ⟨fun p hp => ?_, fun p hp => ?_⟩
  · have ho := hO p hp
    rw [e1, e3, e4, e6, e7]
    by_cases z : p = j
    · subst z
      rw [pk_us, pk_us]
      refine ⟨fun z => absurd z (by omega), ho.2.1, ho.2.2.1, fun z => ?_⟩
      rcases hv with h1 | h1
      · exact h1.2
      · exact absurd z h1.1
    · rw [pk_un z, pk_un z]
      exact ho
  · rw [e6, e7, e29]
    by_cases z : p = j
    · subst z
      rw [pk_us, pk_us, pk_us]
      refine ⟨rfl, fun z => ?_⟩
      rcases hv with h1 | h1
      · exact absurd h1.1 z
      · exact ⟨h1.2.2, h1.2.1.symm⟩
    · rw [pk_un z, pk_un z, pk_un z, e30 p z]
      exact hK p hp
theorem c_offer (h : Iv g T n nP nN nT nW C) (p v u : Int32) : (dOffer g p v u).1 = (mOffer (T0 (dOffer g p v u).2) p v u).1 ∧ IV (mOffer (T0 (dOffer g p v u).2) p v u).2 T n := by
  have hI := h
  obtain ⟨hC, ⟨hP, hN, hT, hU⟩, ⟨hO, hK, hW⟩, hX, hR, hc⟩ := h
  have hP10 := hC.1.2.2
  have hC10 := hX.1
  unfold dOffer
  rw [pt_eq hC]
  by_cases q1 : mIsPt g p = true
  · rw [if_pos q1]
    obtain ⟨j, hj, rfl⟩ := pt_in hC q1
    by_cases q2 : isVer v = true
    · rw [if_pos q2]
      by_cases q3 : isWor u = true
      · rw [if_pos q3]
        have hu := in_n (a := 1) (Or.inr rfl) (show isInB u 1 1000 = true from q3)
        have hv := ver_m1 (show isInB v 0 1000 = true from q2)
        by_cases q4 : g 25 25 = 0
        · have hh : hTC g (nI j) = g 1 j := by
            unfold hTC
            rw [ch_off hX q4, if_neg (by decide), nI_clamp (by omega)]
          rw [hh]
          by_cases q5 : v = g 1 j
          · rw [if_pos q5]
            unfold mOffer
            rw [if_pos (by exact q1), if_pos (show isInB v 0 1000 = true from q2), if_pos (show isInB u 1 1000 = true from q3), if_pos (by exact q4), if_pos (show v = T0 g 26 (nI j).toNatClampNeg by rw [nI_clamp (by omega)]; exact q5.trans (hP j hj).1)]
            exact ⟨rfl, hI.iv (EqV.t0 g)⟩
          · rw [if_neg q5, show opn g = 2 by unfold opn; rw [cut_off hX q4, if_neg (by decide)], put_nI (by omega)]
            unfold mOffer
            rw [if_pos (by exact q1), if_pos (show isInB v 0 1000 = true from q2), if_pos (show isInB u 1 1000 = true from q3), if_pos (by exact q4), nI_clamp (show j < 2 ^ 31 by omega), if_neg (by exact fun z => q5 (z.trans (hP j hj).1.symm))]
            obtain ⟨a1, a2, a3⟩ := off_put (g' := va_up (va_up (T0 (va_up (va_up g (2 + 1) (upd (g (2 + 1)) j v)) (2 + 2) (upd (g (2 + 2)) j u))) 27 (upd (g 27) j v)) 28 (upd (g 28) j u)) hP hU hO hj (v := v) (u := u) (Or.inr ⟨hv, q5, pk_us, hu⟩) rfl rfl rfl rfl rfl (fun q hq => pk_un hq) rfl rfl
            exact ⟨rfl, nP, nN, nT, nW, C, hC, ⟨a1, hN, hT, a2⟩, ⟨a3, hK, hW⟩, ⟨hX.1, hX.2.1, Or.inl ⟨hX.off q4, q4⟩⟩, hR, hc⟩
        · have hh : hTC g (nI j) = mVer g (nI j) (g 25 24) := by
            unfold hTC mVer
            rw [ch_eq hX q4 (by omega), hX.2.1, isOfB_bit (by omega) (by omega), at10_nI (by omega), nI_clamp (by omega), (hP j hj).1, (hP j hj).2]
          rw [hh]
          by_cases q5 : v = mVer g (nI j) (g 25 24)
          · rw [if_pos q5]
            unfold mOffer
            rw [if_pos (by exact q1), if_pos (show isInB v 0 1000 = true from q2), if_pos (show isInB u 1 1000 = true from q3), if_neg (by exact q4), if_pos (by exact q5)]
            exact ⟨rfl, hI.iv (EqV.t0 g)⟩
          · rw [if_neg q5, show opn g = 5 by unfold opn; rw [cut_on hX q4, if_pos rfl], put_nI (by omega)]
            unfold mOffer
            rw [if_pos (by exact q1), if_pos (show isInB v 0 1000 = true from q2), if_pos (show isInB u 1 1000 = true from q3), if_neg (by exact q4), if_neg (by exact q5), nI_clamp (show j < 2 ^ 31 by omega)]
            obtain ⟨a1, a2⟩ := kept_put (g' := va_up (va_up (T0 (va_up (va_up g (5 + 1) (upd (g (5 + 1)) j v)) (5 + 2) (upd (g (5 + 2)) j u))) 29 (upd (g 29) j v)) 30 (upd (g 30) j u)) hO hK hj (v := v) (u := u) (Or.inr ⟨hv, pk_us, hu⟩) rfl rfl rfl rfl rfl rfl (fun q hq => pk_un hq)
            exact ⟨rfl, nP, nN, nT, nW, C, hC, ⟨hP, hN, hT, hU⟩, ⟨a1, a2, hW⟩, hX.to ⟨rfl, rfl, rfl, rfl, rfl, rfl, rfl⟩ rfl rfl rfl rfl rfl rfl, hR, hc⟩
      · rw [if_neg q3]
        unfold mOffer
        rw [if_pos (by exact q1), if_pos (show isInB v 0 1000 = true from q2), if_neg (show ¬ isInB u 1 1000 = true from q3)]
        exact ⟨rfl, hI.iv (EqV.t0 g)⟩
    · rw [if_neg q2]
      unfold mOffer
      rw [if_pos (by exact q1), if_neg (show ¬ isInB v 0 1000 = true from q2)]
      exact ⟨rfl, hI.iv (EqV.t0 g)⟩
  · rw [if_neg q1]
    unfold mOffer
    rw [if_neg (by exact q1)]
    exact ⟨rfl, hI.iv (EqV.t0 g)⟩
theorem c_withdraw (h : Iv g T n nP nN nT nW C) (p : Int32) : (dWithdraw g p).1 = (mWithdraw (T0 (dWithdraw g p).2) p).1 ∧ IV (mWithdraw (T0 (dWithdraw g p).2) p).2 T n := by
  have hI := h
  obtain ⟨hC, ⟨hP, hN, hT, hU⟩, ⟨hO, hK, hW⟩, hX, hR, hc⟩ := h
  have hP10 := hC.1.2.2
  unfold dWithdraw
  rw [pt_eq hC]
  by_cases q1 : mIsPt g p = true
  · rw [if_pos q1]
    obtain ⟨j, hj, rfl⟩ := pt_in hC q1
    rw [at10_nI (by omega)]
    by_cases q4 : g 25 25 = 0
    · rw [show opn g = 2 by unfold opn; rw [cut_off hX q4, if_neg (by decide)]]
      by_cases q5 : g (2 + 1) j = -1
      · rw [if_pos q5]
        unfold mWithdraw
        rw [if_pos (by exact q1), if_pos (by exact q4), nI_clamp (show j < 2 ^ 31 by omega), if_pos (by exact (hP j hj).2.symm.trans q5)]
        exact ⟨rfl, hI.iv (EqV.t0 g)⟩
      · rw [if_neg q5, put_nI (by omega)]
        unfold mWithdraw
        rw [if_pos (by exact q1), if_pos (by exact q4), nI_clamp (show j < 2 ^ 31 by omega), if_neg (by exact fun z => q5 ((hP j hj).2.trans z))]
        obtain ⟨a1, a2, a3⟩ := off_put (g' := va_up (T0 (va_up (va_up g (2 + 1) (upd (g (2 + 1)) j (-1))) (2 + 2) (upd (g (2 + 2)) j (-1)))) 27 (upd (g 27) j (-1))) hP hU hO hj (v := -1) (u := -1) (Or.inl ⟨rfl, rfl⟩) rfl rfl rfl rfl rfl (fun q hq => rfl) rfl rfl
        exact ⟨rfl, nP, nN, nT, nW, C, hC, ⟨a1, hN, hT, a2⟩, ⟨a3, hK, hW⟩, ⟨hX.1, hX.2.1, Or.inl ⟨hX.off q4, q4⟩⟩, hR, hc⟩
    · rw [show opn g = 5 by unfold opn; rw [cut_on hX q4, if_pos rfl]]
      by_cases q5 : g (5 + 1) j = -1
      · rw [if_pos q5]
        unfold mWithdraw
        rw [if_pos (by exact q1), if_neg (by exact q4), nI_clamp (show j < 2 ^ 31 by omega), if_pos (by exact (hK j hj).1.symm.trans q5)]
        exact ⟨rfl, hI.iv (EqV.t0 g)⟩
      · rw [if_neg q5, put_nI (by omega)]
        unfold mWithdraw
        rw [if_pos (by exact q1), if_neg (by exact q4), nI_clamp (show j < 2 ^ 31 by omega), if_neg (by exact fun z => q5 ((hK j hj).1.trans z))]
        obtain ⟨a1, a2⟩ := kept_put (g' := va_up (T0 (va_up (va_up g (5 + 1) (upd (g (5 + 1)) j (-1))) (5 + 2) (upd (g (5 + 2)) j (-1)))) 29 (upd (g 29) j (-1))) hO hK hj (v := -1) (u := -1) (Or.inl ⟨rfl, rfl⟩) rfl rfl rfl rfl rfl rfl (fun q hq => rfl)
        exact ⟨rfl, nP, nN, nT, nW, C, hC, ⟨hP, hN, hT, hU⟩, ⟨a1, a2, hW⟩, hX.to ⟨rfl, rfl, rfl, rfl, rfl, rfl, rfl⟩ rfl rfl rfl rfl rfl rfl, hR, hc⟩
  · rw [if_neg q1]
    unfold mWithdraw
    rw [if_neg (by exact q1)]
    exact ⟨rfl, hI.iv (EqV.t0 g)⟩
theorem in_lo {lo hi : Int32} (h : isInB lo 0 1000 = true) : isInB hi lo 1000 = (isVer hi && decide (lo ≤ hi)) := by
  obtain ⟨k, hk, rfl⟩ := in_n (Or.inl rfl) h
  unfold isInB isVer
  by_cases q : hi < 0
  · rw [decide_eq_true q, Bool.not_true, Bool.false_and, Bool.false_and, decide_eq_true (show hi < nI k by
      rw [Int32.lt_iff_toInt_lt] at q ⊢
      rw [nI_toInt (by omega)]
      rw [show (0 : Int32).toInt = 0 from rfl] at q
      omega)]
    rfl
  · rw [decide_eq_false q, Bool.not_false, Bool.true_and, Bool.and_comm]
    congr 1
    rw [Bool.eq_iff_iff, Bool.not_eq_true', decide_eq_false_iff_not, decide_eq_true_eq, Int32.not_lt]
theorem c_need (h : Iv g T n nP nN nT nW C) (p v o lo hi : Int32) : (dNeed g p v o lo hi).1 = (mNeed (T0 (dNeed g p v o lo hi).2) p v o lo hi).1 ∧ IV (mNeed (T0 (dNeed g p v o lo hi).2) p v o lo hi).2 T n := by
  have hI := h
  obtain ⟨hC, ⟨hP, hN, hT, hU⟩, ⟨hO, hK, hW⟩, hX, hR, hc⟩ := h
  have hP10 := hC.1.2.2
  have hN30 := hC.2.1.2.2
  have h30 : (!decide (g 25 20 = 30)) = decide (g 8 7 < 30) := by
    rw [hC.2.1.1, hC.2.1.2.1, Bool.eq_iff_iff, Bool.not_eq_true', decide_eq_false_iff_not, decide_eq_true_eq, show (nI nN = (30 : Int32)) = (nN = 30) from propext (nI_eq (b := 30) (by omega) (by decide)), show (nI nN < (30 : Int32)) = (nN < 30) from propext (nI_ltI (b := 30) (by omega) (by decide))]
    omega
  have hb : (decide (g 25 25 = 0) && (!decide (g 25 20 = 30) && (mIsPt g p && (mIsPt g o && (!decide (p = o) && (isInB v 0 1000 && (isInB lo 0 1000 && isInB hi lo 1000))))))) = ((!cutB g && (isPt g p && (isPt g o && (!decide (p = o) && (isVer v && (isVer lo && (isVer hi && decide (lo ≤ hi)))))))) && decide (g 8 7 < 30)) := by
    rw [cut_eq hX, Bool.not_not, pt_eq hC, pt_eq hC, h30, show isInB v 0 1000 = isVer v from rfl, show isInB lo 0 1000 = isVer lo from rfl]
    by_cases q : isVer lo = true
    · rw [in_lo q]
      simp only [Bool.and_assoc, Bool.and_comm, Bool.and_left_comm]
    · rw [Bool.eq_false_iff.mpr q]
      simp
  rw [dNeed_b]
  by_cases q : (!cutB g && (isPt g p && (isPt g o && (!decide (p = o) && (isVer v && (isVer lo && (isVer hi && decide (lo ≤ hi)))))))) = true
  · rw [if_pos q]
    by_cases q8 : g 8 7 < 30
    · rw [if_pos q8, if_pos q8, mNeed_b]
      have hbt : (decide (g 25 25 = 0) && (!decide (g 25 20 = 30) && (mIsPt g p && (mIsPt g o && (!decide (p = o) && (isInB v 0 1000 && (isInB lo 0 1000 && isInB hi lo 1000))))))) = true := by rw [hb, q, decide_eq_true q8]; rfl
      rw [if_pos (by exact hbt)]
      rw [Bool.and_eq_true, Bool.and_eq_true, Bool.and_eq_true, Bool.and_eq_true, Bool.and_eq_true, decide_eq_true_eq] at hbt
      obtain ⟨q1, _, q3, q4, q5, _⟩ := hbt
      rw [Bool.not_eq_true', decide_eq_false_iff_not] at q5
      obtain ⟨i, hi1, rfl⟩ := pt_in hC q3
      obtain ⟨j, hj1, rfl⟩ := pt_in hC q4
      have hlt : nN < 30 := by
        rw [hC.2.1.1] at q8
        exact ltK (b := 30) (by omega) (by decide) q8
      have c0 : (g 8 7).toNatClampNeg = nN := by rw [hC.2.1.1, nI_clamp (by omega)]
      have c1 : (g 25 20).toNatClampNeg = nN := by rw [hC.2.1.2.1, nI_clamp (by omega)]
      refine ⟨by show g 8 7 + 1 - 1 = g 25 20 + 1 - 1; rw [hC.2.1.1, hC.2.1.2.1], ⟨nP, nN + 1, nT, nW, C, ⟨hC.1, ⟨?_, ?_, by omega⟩, hC.2.2⟩, ⟨hP, ?_, hT, hU⟩, ⟨hO, hK, hW⟩, ⟨hX.1, hX.2.1, Or.inl ⟨hX.off q1, q1⟩⟩, hR, hc⟩⟩
      · show g 8 7 + 1 = nI (nN + 1)
        rw [hC.2.1.1, nI_1]
      · show g 25 20 + 1 = nI (nN + 1)
        rw [hC.2.1.2.1, nI_1]
      · intro k hk
        show ∃ p o : Nat, p < nP ∧ o < nP ∧ p ≠ o ∧ (upd (g 9) (g 8 7).toNatClampNeg (nI i) k = nI p ∧ upd (g 11) (g 8 7).toNatClampNeg (nI j) k = nI o) ∧ (upd (g 31) (g 25 20).toNatClampNeg (nI i) k = nI p ∧ upd (g 33) (g 25 20).toNatClampNeg (nI j) k = nI o) ∧ upd (g 10) (g 8 7).toNatClampNeg v k = upd (g 32) (g 25 20).toNatClampNeg v k ∧ upd (g 12) (g 8 7).toNatClampNeg lo k = upd (g 34) (g 25 20).toNatClampNeg lo k ∧ upd (g 13) (g 8 7).toNatClampNeg hi k = upd (g 35) (g 25 20).toNatClampNeg hi k
        rw [c0, c1]
        by_cases z : k = nN
        · subst z
          simp only [pk_us]
          exact ⟨i, j, hi1, hj1, fun z => q5 (by rw [z]), ⟨rfl, rfl⟩, ⟨rfl, rfl⟩, trivial, trivial, trivial⟩
        · simp only [pk_un z]
          exact hN k (by omega)
    · rw [if_neg q8, if_neg q8, mNeed_b]
      have hbf : (decide (g 25 25 = 0) && (!decide (g 25 20 = 30) && (mIsPt g p && (mIsPt g o && (!decide (p = o) && (isInB v 0 1000 && (isInB lo 0 1000 && isInB hi lo 1000))))))) = false := by rw [hb, decide_eq_false q8, Bool.and_false]
      rw [if_neg (by exact Bool.eq_false_iff.mp hbf)]
      exact ⟨rfl, hI.iv (EqV.t0 g)⟩
  · rw [if_neg q, mNeed_b]
    have hbf : (decide (g 25 25 = 0) && (!decide (g 25 20 = 30) && (mIsPt g p && (mIsPt g o && (!decide (p = o) && (isInB v 0 1000 && (isInB lo 0 1000 && isInB hi lo 1000))))))) = false := by rw [hb, Bool.eq_false_iff.mpr q, Bool.false_and]
    rw [if_neg (by exact Bool.eq_false_iff.mp hbf)]
    exact ⟨rfl, hI.iv (EqV.t0 g)⟩
theorem c_test (h : Iv g T n nP nN nT nW C) (set : Int32) : (dTest g set).1 = (mTest (T0 (dTest g set).2) set).1 ∧ IV (mTest (T0 (dTest g set).2) set).2 T n := by
  have hI := h
  obtain ⟨hC, ⟨hP, hN, hT, hU⟩, ⟨hO, hK, hW⟩, hX, hR, hc⟩ := h
  have hP10 := hC.1.2.2
  have hT12 := hC.2.2.1.2.2
  have h12 : (!decide (g 25 21 = 12)) = decide (g 16 1 < 12) := by
    rw [hC.2.2.1.1, hC.2.2.1.2.1, Bool.eq_iff_iff, Bool.not_eq_true', decide_eq_false_iff_not, decide_eq_true_eq, show (nI nT = (12 : Int32)) = (nT = 12) from propext (nI_eq (b := 12) (by omega) (by decide)), show (nI nT < (12 : Int32)) = (nT < 12) from propext (nI_ltI (b := 12) (by omega) (by decide))]
    omega
  have hb : (decide (g 25 25 = 0) && (!decide (g 25 21 = 12) && (mSetB g set && !decide (set = 0)))) = ((!cutB g && (!decide (set = 0) && areP g set)) && decide (g 16 1 < 12)) := by
    rw [cut_eq hX, Bool.not_not, areP_eq hC.1.1 hC.1.2.1 hP10, h12]
    simp only [Bool.and_assoc, Bool.and_comm, Bool.and_left_comm]
  rw [dTest_b]
  by_cases q : (!cutB g && (!decide (set = 0) && areP g set)) = true
  · rw [if_pos q]
    by_cases q8 : g 16 1 < 12
    · rw [if_pos q8, if_pos q8, mTest_b]
      have hbt : (decide (g 25 25 = 0) && (!decide (g 25 21 = 12) && (mSetB g set && !decide (set = 0)))) = true := by rw [hb, q, decide_eq_true q8]; rfl
      rw [if_pos (by exact hbt)]
      rw [Bool.and_eq_true, Bool.and_eq_true, Bool.and_eq_true, decide_eq_true_eq] at hbt
      obtain ⟨q1, _, q3, _⟩ := hbt
      obtain ⟨F, hF, rfl⟩ := mSetB_set hC.1.2.1 hP10 q3
      have hlt : nT < 12 := by
        rw [hC.2.2.1.1] at q8
        exact ltK (b := 12) (by omega) (by decide) q8
      have c0 : (g 16 1).toNatClampNeg = nT := by rw [hC.2.2.1.1, nI_clamp (by omega)]
      have c1 : (g 25 21).toNatClampNeg = nT := by rw [hC.2.2.1.2.1, nI_clamp (by omega)]
      refine ⟨by show g 16 1 + 1 - 1 = g 25 21 + 1 - 1; rw [hC.2.2.1.1, hC.2.2.1.2.1], ⟨nP, nN, nT + 1, nW, C, ⟨hC.1, hC.2.1, ⟨?_, ?_, by omega⟩, hC.2.2.2⟩, ⟨hP, hN, ?_, hU⟩, ⟨hO, hK, hW⟩, ⟨hX.1, hX.2.1, Or.inl ⟨hX.off q1, q1⟩⟩, hR, hc⟩⟩
      · show g 16 1 + 1 = nI (nT + 1)
        rw [hC.2.2.1.1, nI_1]
      · show g 25 21 + 1 = nI (nT + 1)
        rw [hC.2.2.1.2.1, nI_1]
      · intro k hk
        show ∃ F' : Nat, F' < 2 ^ nP ∧ upd (g 17) (g 16 1).toNatClampNeg (nI F) k = nI F' ∧ upd (g 36) (g 25 21).toNatClampNeg (nI F) k = nI F'
        rw [c0, c1]
        by_cases z : k = nT
        · subst z
          simp only [pk_us]
          exact ⟨F, hF, rfl, rfl⟩
        · simp only [pk_un z]
          exact hT k (by omega)
    · rw [if_neg q8, if_neg q8, mTest_b]
      have hbf : (decide (g 25 25 = 0) && (!decide (g 25 21 = 12) && (mSetB g set && !decide (set = 0)))) = false := by rw [hb, decide_eq_false q8, Bool.and_false]
      rw [if_neg (by exact Bool.eq_false_iff.mp hbf)]
      exact ⟨rfl, hI.iv (EqV.t0 g)⟩
  · rw [if_neg q, mTest_b]
    have hbf : (decide (g 25 25 = 0) && (!decide (g 25 21 = 12) && (mSetB g set && !decide (set = 0)))) = false := by rw [hb, Bool.eq_false_iff.mpr q, Bool.false_and]
    rw [if_neg (by exact Bool.eq_false_iff.mp hbf)]
    exact ⟨rfl, hI.iv (EqV.t0 g)⟩
theorem way_eq (hW : IvW g nW) (p v : Int32) : fi (pWay (g 22) (g 23) p v) nW 0 = mWay g nW p v := by
  unfold mWay
  refine fi_congr nW 0 (fun j _ hj => ?_)
  obtain ⟨h1, h2⟩ := hW j (by omega)
  unfold pWay
  rw [h1, h2]
theorem c_oneWay (h : Iv g T n nP nN nT nW C) (p v : Int32) (is : Bool) : (dOneWay g nW p v (bI is)).1 = (mOneWay (T0 (dOneWay g nW p v (bI is)).2) nW p v is).1 ∧ IV (mOneWay (T0 (dOneWay g nW p v (bI is)).2) nW p v is).2 T n := by
  have hI := h
  obtain ⟨hC, ⟨hP, hN, hT, hU⟩, ⟨hO, hK, hW⟩, hX, hR, hc⟩ := h
  have hP10 := hC.1.2.2
  have hW60 := hC.2.2.2.1.2.2
  have c0 : (g 21 2).toNatClampNeg = nW := by rw [hC.2.2.2.1.1, nI_clamp (by omega)]
  have c1 : (g 25 22).toNatClampNeg = nW := by rw [hC.2.2.2.1.2.1, nI_clamp (by omega)]
  unfold dOneWay
  rw [pt_eq hC, way_eq hW]
  by_cases q1 : mIsPt g p = true
  · rw [if_pos q1]
    by_cases q2 : isVer v = true
    · rw [if_pos q2]
      cases is with
      | false =>
        rw [if_pos (show bI false = 0 from rfl)]
        by_cases q3 : mWay g nW p v = -1
        · rw [if_pos q3, if_pos q3]
          unfold mOneWay
          rw [if_pos (by exact q1), if_pos (show isInB v 0 1000 = true from q2), if_pos (by exact q3), if_neg (by decide)]
          exact ⟨rfl, hI.iv (EqV.t0 g)⟩
        · rw [if_neg q3, if_neg q3]
          unfold mOneWay
          rw [if_pos (by exact q1), if_pos (show isInB v 0 1000 = true from q2), if_neg (by exact q3), if_neg (by decide), show mWay (T0 (1, delWay g (mWay g nW p v).toNatClampNeg).2) nW p v = mWay g nW p v from rfl]
          rcases fi_some (P := pWay (g 37) (g 38) p v) nW 0 with z | ⟨j, _, hj, _, ej⟩
          · exact absurd z q3
          · have ej' : mWay g nW p v = nI j := ej
            rw [ej', nI_clamp (show j < 2 ^ 31 by omega)]
            have cm0 : (g 21 2 - 1).toNatClampNeg = nW - 1 := by rw [hC.2.2.2.1.1, show nW = (nW - 1) + 1 by omega, nI_pred, nI_clamp (by omega)]; omega
            have cm1 : (g 25 22 - 1).toNatClampNeg = nW - 1 := by rw [hC.2.2.2.1.2.1, show nW = (nW - 1) + 1 by omega, nI_pred, nI_clamp (by omega)]; omega
            refine ⟨rfl, nP, nN, nT, nW - 1, C, ⟨hC.1, hC.2.1, hC.2.2.1, ⟨?_, ?_, by omega⟩, hC.2.2.2.2⟩, ⟨hP, hN, hT, hU⟩, ⟨hO, hK, ?_⟩, hX.to ⟨rfl, rfl, rfl, rfl, rfl, rfl, rfl⟩ rfl rfl rfl rfl rfl rfl, hR, hc⟩
            · show g 21 2 - 1 = nI (nW - 1)
              rw [hC.2.2.2.1.1, show nW = (nW - 1) + 1 by omega, nI_pred]
              rfl
            · show g 25 22 - 1 = nI (nW - 1)
              rw [hC.2.2.2.1.2.1, show nW = (nW - 1) + 1 by omega, nI_pred]
              rfl
            · intro i hi
              show upd (g 22) j (g 22 (g 21 2 - 1).toNatClampNeg) i = upd (g 37) j (g 37 (g 25 22 - 1).toNatClampNeg) i ∧ upd (g 23) j (g 23 (g 21 2 - 1).toNatClampNeg) i = upd (g 38) j (g 38 (g 25 22 - 1).toNatClampNeg) i
              rw [cm0, cm1]
              by_cases z : i = j
              · subst z
                simp only [pk_us]
                exact hW (nW - 1) (by omega)
              · simp only [pk_un z]
                exact hW i (by omega)
      | true =>
        rw [if_neg (show ¬ bI true = 0 by decide)]
        have h60 : 60 ≤ g 21 2 ↔ g 25 22 = 60 := by
          rw [hC.2.2.2.1.1, hC.2.2.2.1.2.1, show (nI nW = (60 : Int32)) = (nW = 60) from propext (nI_eq (b := 60) (by omega) (by decide)), show ((60 : Int32) ≤ nI nW) = (60 ≤ nW) from propext (nI_leI (a := 60) (by decide) (by omega))]
          omega
        by_cases q4 : g 25 22 = 60
        · rw [if_pos (h60.mpr q4), if_pos (h60.mpr q4)]
          unfold mOneWay
          rw [if_pos (by exact q1), if_pos (show isInB v 0 1000 = true from q2)]
          by_cases q3 : mWay (T0 g) nW p v = -1
          · rw [if_pos q3, if_pos rfl, if_pos (by exact q4)]
            exact ⟨rfl, hI.iv (EqV.t0 g)⟩
          · rw [if_neg q3, if_pos rfl]
            exact ⟨rfl, hI.iv (EqV.t0 g)⟩
        · rw [if_neg (fun z => q4 (h60.mp z)), if_neg (fun z => q4 (h60.mp z))]
          by_cases q3 : mWay g nW p v = -1
          · rw [if_pos q3, if_pos q3]
            unfold mOneWay
            rw [if_pos (by exact q1), if_pos (show isInB v 0 1000 = true from q2), if_pos (by exact q3), if_pos rfl, if_neg (by exact q4)]
            have hlt : nW < 60 := by
              rcases Nat.lt_or_ge nW 60 with z | z
              · exact z
              · exact absurd (by rw [hC.2.2.2.1.2.1, show nW = 60 by omega]; rfl) q4
            refine ⟨rfl, nP, nN, nT, nW + 1, C, ⟨hC.1, hC.2.1, hC.2.2.1, ⟨?_, ?_, by omega⟩, hC.2.2.2.2⟩, ⟨hP, hN, hT, hU⟩, ⟨hO, hK, ?_⟩, hX.to ⟨rfl, rfl, rfl, rfl, rfl, rfl, rfl⟩ rfl rfl rfl rfl rfl rfl, hR, hc⟩
            · show g 21 2 + 1 = nI (nW + 1)
              rw [hC.2.2.2.1.1, nI_1]
            · show g 25 22 + 1 = nI (nW + 1)
              rw [hC.2.2.2.1.2.1, nI_1]
            · intro i hi
              show upd (g 22) (g 21 2).toNatClampNeg p i = upd (g 37) (g 25 22).toNatClampNeg p i ∧ upd (g 23) (g 21 2).toNatClampNeg v i = upd (g 38) (g 25 22).toNatClampNeg v i
              rw [c0, c1]
              by_cases z : i = nW
              · subst z
                simp only [pk_us]
                exact ⟨trivial, trivial⟩
              · simp only [pk_un z]
                exact hW i (by omega)
          · rw [if_neg q3, if_neg q3]
            unfold mOneWay
            rw [if_pos (by exact q1), if_pos (show isInB v 0 1000 = true from q2), if_neg (by exact q3), if_pos rfl]
            exact ⟨rfl, hI.iv (EqV.t0 g)⟩
    · rw [if_neg q2]
      unfold mOneWay
      rw [if_pos (by exact q1), if_neg (show ¬ isInB v 0 1000 = true from q2)]
      exact ⟨rfl, hI.iv (EqV.t0 g)⟩
  · rw [if_neg q1]
    unfold mOneWay
    rw [if_neg (by exact q1)]
    exact ⟨rfl, hI.iv (EqV.t0 g)⟩
end INV3
