/-! ===== what holds between any two calls of the law ===== -/
/-- the counts -/
def IvC (g : Nat → Nat → Int32) (n nP nN nT nW : Nat) : Prop := (g 0 9 = nI nP ∧ g 25 19 = nI nP ∧ nP ≤ 10) ∧ (g 8 7 = nI nN ∧ g 25 20 = nI nN ∧ nN ≤ 30) ∧ (g 16 1 = nI nT ∧ g 25 21 = nI nT ∧ nT ≤ 12) ∧ (g 21 2 = nI nW ∧ g 25 22 = nI nW ∧ nW ≤ 60) ∧ (g 24 2 = nI n ∧ g 25 23 = nI n ∧ n ≤ 60)
/-- the desk's offers, open and kept -/
def IvO (g : Nat → Nat → Int32) (nP : Nat) : Prop := ∀ p, p < 10 → (nP ≤ p → g 3 p = -1 ∧ g 6 p = -1) ∧ (g 3 p = -1 → g 4 p = -1) ∧ (¬ g 3 p = -1 → ¬ g 3 p = g 1 p) ∧ (g 6 p = -1 → g 7 p = -1)
/-- the kept offers of both -/
def IvK (g : Nat → Nat → Int32) (nP : Nat) : Prop := ∀ p, p < nP → g 6 p = g 29 p ∧ (¬ g 6 p = -1 → (∃ u : Nat, u ≤ 1000 ∧ g 7 p = nI u) ∧ g 7 p = g 30 p)
def IvW (g : Nat → Nat → Int32) (nW : Nat) : Prop := ∀ i, i < nW → g 22 i = g 37 i ∧ g 23 i = g 38 i
/-- the row of the reference, from an empty row -/
abbrev rw0 (g : Nat → Nat → Int32) (nN nP C : Nat) : (Nat → Int32) × Nat := rowL g nN nP C 10 0 0 (fun _ => 0)
/-- the route is the row -/
def RtOK (g : Nat → Nat → Int32) (nP nN C : Nat) : Prop := ∃ bo : Bool, OrdOK g nN nP C bo ∧ (bo = true → g 18 1 = nI (popc C) ∧ (rw0 g nN nP C).2 = popc C ∧ ∀ i, i < popc C → g 19 i = (rw0 g nN nP C).1 i) ∧ (bo = false → g 18 1 = -1)
/-- the cut at hand -/
def IvX (g : Nat → Nat → Int32) (nP nN C : Nat) : Prop := C < 1024 ∧ g 25 24 = nI C ∧ ((g 0 10 = -1 ∧ g 25 25 = 0) ∨ (g 0 10 = nI C ∧ ¬ g 25 25 = 0 ∧ OfS g nP C ∧ FitR g nN C ∧ RtOK g nP nN C))
/-- the trains -/
def IvR (g : Nat → Nat → Int32) (T : Nat → TR) (n nP : Nat) : Prop := ∀ t, t < n → (T t).1 ≤ nP ∧ g 39 t = nI (T t).1 ∧ (∃ L : Nat, L < 2 ^ (T t).1 ∧ (T t).2.2.2.1 = nI L ∧ g 40 t = nI L) ∧ (∀ p, p < (T t).1 → g 41 (10 * t + p) = (T t).2.1 p ∧ g 42 (10 * t + p) = (T t).2.2.1 p) ∧ g 43 t = (T t).2.2.2.2
/-- the trains that are out, the latest first: home is as behind it, and ahead of it as the ones before left it -/
def chn (T : Nat → TR) : Nat → (Nat → Int32) → Prop
  | 0, _ => True
  | t + 1, h => if (T t).2.2.2.2 = 0 then (∀ p, p < (T t).1 → (ldN (T t)).testBit p = true → h p = (T t).2.2.1 p) ∧ chn T t (brF h (T t).2.1 (ldN (T t)) (T t).1) else chn T t h
def Iv (g : Nat → Nat → Int32) (T : Nat → TR) (n nP nN nT nW C : Nat) : Prop := IvC g n nP nN nT nW ∧ (IvP g nP ∧ IvN g nP nN ∧ IvT g nP nT ∧ IvU g nP) ∧ (IvO g nP ∧ IvK g nP ∧ IvW g nW) ∧ IvX g nP nN C ∧ IvR g T n nP ∧ chn T n (g 1)
def IV (g : Nat → Nat → Int32) (T : Nat → TR) (n : Nat) : Prop := ∃ nP nN nT nW C : Nat, Iv g T n nP nN nT nW C
theorem chn_congr {T : Nat → TR} {m : Nat} : ∀ (n : Nat) (h h' : Nat → Int32), (∀ t, t < n → (T t).1 ≤ m) → (∀ p, p < m → h p = h' p) → chn T n h → chn T n h'
  | 0, _, _, _, _, _ => trivial
  | t + 1, h, h', hm, he, hc => by
    unfold chn at hc ⊢
    have hmt := hm t (Nat.lt_succ_self t)
    split
    next q =>
      rw [if_pos q] at hc
      refine ⟨fun p hp hb => (he p (by omega)).symm.trans (hc.1 p hp hb), chn_congr t _ _ (fun u hu => hm u (by omega)) (fun p hp => ?_) hc.2⟩
      unfold brF
      rw [he p hp]
    next q =>
      rw [if_neg q] at hc
      exact chn_congr t _ _ (fun u hu => hm u (by omega)) he hc
theorem chn_T {T T' : Nat → TR} : ∀ (n : Nat) (h : Nat → Int32), (∀ t, t < n → T' t = T t) → chn T n h → chn T' n h
  | 0, _, _, _ => trivial
  | t + 1, h, hm, hc => by
    unfold chn at hc ⊢
    rw [hm t (Nat.lt_succ_self t)]
    split
    next q =>
      rw [if_pos q] at hc
      exact ⟨hc.1, chn_T t _ (fun u hu => hm u (by omega)) hc.2⟩
    next q =>
      rw [if_neg q] at hc
      exact chn_T t _ (fun u hu => hm u (by omega)) hc
/-- what the needs are weighed by in the reference -/
def RD (g g' : Nat → Nat → Int32) : Prop := g' 26 = g 26 ∧ g' 27 = g 27 ∧ g' 31 = g 31 ∧ g' 32 = g 32 ∧ g' 33 = g 33 ∧ g' 34 = g 34 ∧ g' 35 = g 35
theorem RD.brk {g g' : Nat → Nat → Int32} (h : RD g g') (nN : Nat) (s : Int32) : mBrk g' nN s = mBrk g nN s := by
  obtain ⟨h1, h2, h3, h4, h5, h6, h7⟩ := h
  have e : pMB g' s = pMB g s := by
    funext k
    unfold pMB mVer
    rw [h1, h2, h3, h4, h5, h6, h7]
  unfold mBrk
  rw [e]
theorem mOpen_c {g g' : Nat → Nat → Int32} {nN : Nat} (h : ∀ s, mBrk g' nN s = mBrk g nN s) (C s : Nat) : mOpen g' nN C s = mOpen g nN C s := by
  funext p
  unfold mOpen
  rw [h]
theorem rowL_c {g g' : Nat → Nat → Int32} {nN nP C : Nat} (h : ∀ s, mBrk g' nN s = mBrk g nN s) : ∀ (k s m : Nat) (f : Nat → Int32), rowL g' nN nP C k s m f = rowL g nN nP C k s m f
  | 0, _, _, _ => rfl
  | k + 1, s, m, f => by
    unfold rowL
    rw [mOpen_c h, rowL_c h k]
theorem gOK_c {g g' : Nat → Nat → Int32} {nN nP C : Nat} (h : ∀ s, mBrk g' nN s = mBrk g nN s) : ∀ (k s : Nat), gOK g' nN nP C k s ↔ gOK g nN nP C k s
  | 0, _ => Iff.rfl
  | k + 1, s => by
    unfold gOK
    rw [mOpen_c h]
    have := fun p => gOK_c h (nP := nP) (C := C) k (s ||| 2 ^ p)
    simp only [this]
theorem rch_c {g g' : Nat → Nat → Int32} {nN nP C : Nat} (h : ∀ s, mBrk g' nN s = mBrk g nN s) : ∀ (k s : Nat), rch g' nN nP C k s ↔ rch g nN nP C k s
  | 0, _ => Iff.rfl
  | k + 1, s => by
    unfold rch
    rw [mOpen_c h]
    have := fun p => rch_c h (nP := nP) (C := C) k (s ||| 2 ^ p)
    simp only [this]
theorem OrdOK_c {g g' : Nat → Nat → Int32} {nN nP C : Nat} {bo : Bool} (h : ∀ s, mBrk g' nN s = mBrk g nN s) (h25 : g' 25 25 = g 25 25) : OrdOK g' nN nP C bo ↔ OrdOK g nN nP C bo := by
  unfold OrdOK
  rw [h, h25, gOK_c h, rch_c h]
theorem RtOK.to {g g' : Nat → Nat → Int32} {nN nP C : Nat} (hr : RtOK g nP nN C) (h : ∀ s, mBrk g' nN s = mBrk g nN s) (h25 : g' 25 25 = g 25 25) (h18 : g' 18 = g 18) (h19 : g' 19 = g 19) : RtOK g' nP nN C := by
  obtain ⟨bo, h1, h2, h3⟩ := hr
  refine ⟨bo, (OrdOK_c h h25).mpr h1, ?_, ?_⟩
  · rw [h18, h19, rw0, rowL_c h]
    exact h2
  · rw [h18]
    exact h3
/-- nothing that the law rests on has changed -/
def EqV (g g' : Nat → Nat → Int32) : Prop := (∀ k, k < 44 → k ≠ 14 → k ≠ 15 → k ≠ 20 → k ≠ 24 → k ≠ 25 → g' k = g k) ∧ g' 24 2 = g 24 2 ∧ ∀ j, 19 ≤ j → j ≤ 25 → g' 25 j = g 25 j
theorem EqV.rd {g g' : Nat → Nat → Int32} (e : EqV g g') : RD g g' := ⟨e.1 26 (by decide) (by decide) (by decide) (by decide) (by decide) (by decide), e.1 27 (by decide) (by decide) (by decide) (by decide) (by decide) (by decide), e.1 31 (by decide) (by decide) (by decide) (by decide) (by decide) (by decide), e.1 32 (by decide) (by decide) (by decide) (by decide) (by decide) (by decide), e.1 33 (by decide) (by decide) (by decide) (by decide) (by decide) (by decide), e.1 34 (by decide) (by decide) (by decide) (by decide) (by decide) (by decide), e.1 35 (by decide) (by decide) (by decide) (by decide) (by decide) (by decide)⟩
theorem EqV.at {g g' : Nat → Nat → Int32} (e : EqV g g') (k : Nat) (h : (decide (k < 44) && (!decide (k = 14) && (!decide (k = 15) && (!decide (k = 20) && (!decide (k = 24) && !decide (k = 25)))))) = true) : g' k = g k := by
  simp only [Bool.and_eq_true, Bool.not_eq_true', decide_eq_true_eq, decide_eq_false_iff_not] at h
  exact e.1 k h.1 h.2.1 h.2.2.1 h.2.2.2.1 h.2.2.2.2.1 h.2.2.2.2.2
theorem Iv.to {g g' : Nat → Nat → Int32} {T : Nat → TR} {n nP nN nT nW C : Nat} (h : Iv g T n nP nN nT nW C) (e : EqV g g') : Iv g' T n nP nN nT nW C := by
  obtain ⟨hC, ⟨hP, hN, hT, hU⟩, ⟨hO, hK, hW⟩, hX, hR, hc⟩ := h
  have e0 := e.at 0 (by decide)
  have e1 := e.at 1 (by decide)
  have e3 := e.at 3 (by decide)
  have e4 := e.at 4 (by decide)
  have e6 := e.at 6 (by decide)
  have e7 := e.at 7 (by decide)
  refine ⟨?_, ⟨?_, ?_, ?_, ?_⟩, ⟨?_, ?_, ?_⟩, ?_, ?_, ?_⟩
  · unfold IvC
    rw [e0, e.at 8 (by decide), e.at 16 (by decide), e.at 21 (by decide), e.2.1, e.2.2 19 (by decide) (by decide), e.2.2 20 (by decide) (by decide), e.2.2 21 (by decide) (by decide), e.2.2 22 (by decide) (by decide), e.2.2 23 (by decide) (by decide)]
    exact hC
  · unfold IvP
    rw [e1, e3, e.at 26 (by decide), e.at 27 (by decide)]
    exact hP
  · unfold IvN
    rw [e.at 9 (by decide), e.at 10 (by decide), e.at 11 (by decide), e.at 12 (by decide), e.at 13 (by decide), e.at 31 (by decide), e.at 32 (by decide), e.at 33 (by decide), e.at 34 (by decide), e.at 35 (by decide)]
    exact hN
  · unfold IvT
    rw [e.at 17 (by decide), e.at 36 (by decide)]
    exact hT
  · unfold IvU
    rw [e3, e4, e.at 28 (by decide)]
    exact hU
  · unfold IvO
    rw [e1, e3, e4, e6, e7]
    exact hO
  · unfold IvK
    rw [e6, e7, e.at 29 (by decide), e.at 30 (by decide)]
    exact hK
  · unfold IvW
    rw [e.at 22 (by decide), e.at 23 (by decide), e.at 37 (by decide), e.at 38 (by decide)]
    exact hW
  · unfold IvX OfS FitR
    rw [e0, e3, e.2.2 24 (by decide) (by decide), e.2.2 25 (by decide) (by decide), e.rd.brk]
    refine ⟨hX.1, hX.2.1, ?_⟩
    rcases hX.2.2 with q | ⟨q1, q2, q3, q4, q5⟩
    · exact Or.inl q
    · exact Or.inr ⟨q1, q2, q3, q4, q5.to (fun s => e.rd.brk nN s) (e.2.2 25 (by decide) (by decide)) (e.at 18 (by decide)) (e.at 19 (by decide))⟩
  · unfold IvR
    rw [e.at 39 (by decide), e.at 40 (by decide), e.at 41 (by decide), e.at 42 (by decide), e.at 43 (by decide)]
    exact hR
  · rw [e1]
    exact hc
