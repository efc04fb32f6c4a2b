/-! ===== calls that change nothing of it ===== -/
section INV2
variable {g g' : Nat → Nat → Int32} {T : Nat → TR} {n nP nN nT nW C : Nat}
theorem EqV.rf (g : Nat → Nat → Int32) : EqV g g := ⟨fun _ _ _ _ _ _ _ => rfl, rfl, fun _ _ _ => rfl⟩
theorem EqV.tr {g2 : Nat → Nat → Int32} (h : EqV g g') (h2 : EqV g' g2) : EqV g g2 := ⟨fun k a b c d e f => (h2.1 k a b c d e f).trans (h.1 k a b c d e f), h2.2.1.trans h.2.1, fun j a b => (h2.2.2 j a b).trans (h.2.2 j a b)⟩
theorem EqV.t0 (g : Nat → Nat → Int32) : EqV g (T0 g) := ⟨fun _ _ _ _ _ _ h => va_up_ne g _ h, rfl, fun j _ _ => pk_un (by omega)⟩
theorem EqV.wt (g : Nat → Nat → Int32) (i : Nat) : EqV g (wTo g i) := ⟨fun k _ h1 h2 _ _ _ => by unfold wTo; rw [va_up_ne _ _ h2, va_up_ne _ _ h1], rfl, fun _ _ _ => rfl⟩
theorem EqV.sh (g : Nat → Nat → Int32) (S c : Nat) : EqV g (setH g S c) := ⟨fun k _ _ _ h _ _ => va_up_ne _ _ h, rfl, fun _ _ _ => rfl⟩
theorem EqV.sm (g : Nat → Nat → Int32) (S c : Nat) : EqV g (setM g S c) := ⟨fun k _ _ _ _ _ h => va_up_ne _ _ h, rfl, fun j _ _ => by show upd (upd (g 25) 31 _) 32 _ j = _; rw [pk_un (by omega), pk_un (by omega)]⟩
theorem EqV.sc (g : Nat → Nat → Int32) (a b : Nat → Int32) (r : Int32) : EqV g (sc g a b r) := ⟨fun k h0 _ _ _ _ h => by unfold Jvm.Pilot.CTrainDeskLaw_law_r7941_e2c28d.sc; rw [va_up_ne _ _ h, va_up_ne _ _ (by omega), va_up_ne _ _ (by omega)], rfl, fun j _ _ => pk_un (by omega)⟩
theorem EqV.th (g : Nat → Nat → Int32) (x : Int32) : EqV g (thr g x) := ⟨fun _ _ _ _ _ _ h => va_up_ne g _ h, rfl, fun j _ _ => pk_un (by omega)⟩
theorem EqV.cut (e : EqV g g') : g' 25 25 = g 25 25 := e.2.2 25 (by decide) (by decide)
theorem EqV.setB (e : EqV g g') (s : Int32) : mSetB g' s = mSetB g s := by unfold mSetB; rw [e.2.2 19 (by decide) (by decide)]
theorem EqV.pt (e : EqV g g') (s : Int32) : mIsPt g' s = mIsPt g s := by unfold mIsPt; rw [e.2.2 19 (by decide) (by decide)]
theorem EqV.off (e : EqV g g') (nP : Nat) : mOff g' nP = mOff g nP := by unfold mOff; rw [e.at 27 (by decide)]
theorem EqV.red (e : EqV g g') (nT : Nat) (s : Int32) : mRed g' nT s = mRed g nT s := by unfold mRed; rw [e.at 36 (by decide)]
theorem EqV.sum (e : EqV g g') (nP S : Nat) : mSum g' nP S = mSum g nP S := by unfold mSum; rw [e.at 28 (by decide)]
theorem nI_ex (x : Int32) : x = nI x.toBitVec.toNat := Int32.toBitVec_inj.1 (BitVec.eq_of_toNat_eq (pk_tn x.toBitVec.isLt).symm)
theorem nI_z {d : Nat} (hd : d < 2 ^ 32) (h : nI d = 0) : d = 0 := by
  have := congrArg (fun x : Int32 => x.toBitVec.toNat) h
  simp only [pk_tn hd] at this
  exact this
theorem sub_set {set : Int32} {M : Nat} (hM : M < 1024) (h : set &&& (nI M ^^^ -1) = 0) : ∃ S, S < 1024 ∧ set = nI S ∧ dif S M = 0 := by
  have h1 := nI_ex set
  generalize hx : set.toBitVec.toNat = x at h1
  have hx2 : x < 2 ^ 32 := hx ▸ set.toBitVec.isLt
  subst h1
  rw [nx_dif] at h
  have h2 := nI_z (Nat.xor_lt_two_pow (n := 32) hx2 (Nat.lt_of_le_of_lt Nat.and_le_left hx2)) h
  have h3 := dif_0.mp h2
  exact ⟨x, by have := Nat.and_le_right (n := x) (m := M); omega, rfl, h2⟩
theorem mask_eq (hP : IvP g nP) (hO : IvO g nP) (hP10 : nP ≤ 10) : maskN (g 3) 10 = mOff g nP := by
  apply Nat.eq_of_testBit_eq
  intro p
  rw [maskN_bit, mOff, maskN_bit]
  by_cases h : p < nP
  · rw [decide_eq_true h, decide_eq_true (show p < 10 by omega), (hP p h).2]
  · rw [decide_eq_false h]
    by_cases h2 : p < 10
    · rw [((hO p h2).1 (by omega)).1]
      simp
    · rw [decide_eq_false h2]
      rfl
theorem mask_lt (f : Nat → Int32) (n : Nat) : maskN f n < 2 ^ n := by
  apply Nat.lt_pow_two_of_testBit
  intro i hi
  rw [maskN_bit, decide_eq_false (by omega)]
  rfl
theorem mask_of (hP : IvP g nP) : OfS g nP (mOff g nP) := by
  intro p hp
  rw [mOff, maskN_bit, Bool.and_eq_true, decide_eq_true_eq, Bool.not_eq_true', decide_eq_false_iff_not] at hp
  exact ⟨hp.1, by rw [(hP p hp.1).2]; exact hp.2⟩
theorem OfS.sub {S M : Nat} (h : OfS g nP M) (hs : dif S M = 0) : OfS g nP S := fun p hp => h p (dif_sub hs hp)
theorem OfS.lt {S : Nat} (h : OfS g nP S) : S < 2 ^ nP := by
  apply Nat.lt_pow_two_of_testBit
  intro i hi
  cases hb : S.testBit i
  · rfl
  · have := (h i hb).1
    omega
theorem OfS.lt10 {S : Nat} (h : OfS g nP S) (hP10 : nP ≤ 10) : S < 1024 := Nat.lt_of_lt_of_le h.lt (pow_le_1024 hP10)
theorem cut_eq (h : IvX g nP nN C) : cutB g = !decide (g 25 25 = 0) := by
  unfold cutB
  rcases h.2.2 with ⟨h1, h2⟩ | ⟨h1, h2, _⟩
  · rw [h1, h2]
    decide
  · have := h.1
    rw [h1, decide_eq_false (nI_ne_m1 (by omega)), decide_eq_false h2]
theorem cut_off (h : IvX g nP nN C) (hc : g 25 25 = 0) : cutB g = false := by rw [cut_eq h, decide_eq_true hc]; rfl
theorem cut_on (h : IvX g nP nN C) (hc : ¬ g 25 25 = 0) : cutB g = true := by rw [cut_eq h, decide_eq_false hc]; rfl
theorem IvX.on (h : IvX g nP nN C) (hc : ¬ g 25 25 = 0) : g 0 10 = nI C ∧ OfS g nP C ∧ FitR g nN C ∧ RtOK g nP nN C := by
  rcases h.2.2 with ⟨_, h2⟩ | ⟨h1, _, h2⟩
  · exact absurd h2 hc
  · exact ⟨h1, h2⟩
theorem IvX.off (h : IvX g nP nN C) (hc : g 25 25 = 0) : g 0 10 = -1 := by
  rcases h.2.2 with ⟨h1, _⟩ | ⟨_, h2, _⟩
  · exact h1
  · exact absurd hc h2
theorem pt_eq (h : IvC g n nP nN nT nW) (p : Int32) : isPt g p = mIsPt g p := by
  unfold isPt mIsPt
  rw [h.1.1, h.1.2.1]
theorem pt_in (h : IvC g n nP nN nT nW) {p : Int32} (hp : mIsPt g p = true) : ∃ j, j < nP ∧ p = nI j := mIsPt_in h.1.2.1 h.1.2.2 hp
theorem ch_eq (h : IvX g nP nN C) (hc : ¬ g 25 25 = 0) {p : Nat} (hp : p < 10) : chB g (nI p) = C.testBit p := by
  have h1 := h.1
  rw [chB, cut_on h hc, (h.on hc).1, bitAt (by omega) (by omega)]
  cases C.testBit p <;> decide
theorem ch_off (h : IvX g nP nN C) (hc : g 25 25 = 0) (p : Int32) : chB g p = false := by
  rw [chB, cut_off h hc]
  rfl
theorem Iv.cok (h : Iv g T n nP nN nT nW C) : COK g := fun hc => by
  have hX := h.2.2.2.1
  by_cases q : g 25 25 = 0
  · rw [cut_off hX q] at hc; cases hc
  · exact ⟨C, hX.1, (hX.on q).1⟩
theorem Iv.mcok (h : Iv g T n nP nN nT nW C) : MCOK g := fun _ => ⟨C, h.2.2.2.1.1, h.2.2.2.1.2.1⟩
theorem Iv.tok (h : Iv g T n nP nN nT nW C) : TOK n T := fun t ht => by
  obtain ⟨h1, _, ⟨L, h2, h3, _⟩, _⟩ := h.2.2.2.2.1 t ht
  have hP10 := h.1.1.2.2
  have h4 : L < 1024 := Nat.lt_of_lt_of_le h2 (pow_le_1024 (by omega))
  have h5 : ldN (T t) = L := by rw [ldN, h3, nI_clamp (by omega)]
  exact ⟨by omega, by rw [h5]; exact h4, by rw [h5]; exact h3⟩
theorem Iv.ld (h : Iv g T n nP nN nT nW C) {t : Nat} (ht : t < n) : ldN (T t) < 2 ^ (T t).1 ∧ (T t).2.2.2.1 = nI (ldN (T t)) ∧ g 40 t = nI (ldN (T t)) := by
  obtain ⟨h1, _, ⟨L, h2, h3, h4⟩, _⟩ := h.2.2.2.2.1 t ht
  have hP10 := h.1.1.2.2
  have h5 : L < 1024 := Nat.lt_of_lt_of_le h2 (pow_le_1024 (by omega))
  have h6 : ldN (T t) = L := by rw [ldN, h3, nI_clamp (by omega)]
  rw [h6]
  exact ⟨h2, h3, h4⟩
theorem c_fits (h : Iv g T n nP nN nT nW C) (set : Int32) : (dFits g nN set).1 = (mFits (T0 (dFits g nN set).2) nP nN set).1 ∧ EqV g (mFits (T0 (dFits g nN set).2) nP nN set).2 := by
  obtain ⟨hC, ⟨hP, hN, hT, hU⟩, ⟨hO, hK, hW⟩, hX, hR, hc⟩ := h
  have hP10 := hC.1.2.2
  have e1 : EqV g (dFits g nN set).2 := by
    unfold dFits
    split
    · exact EqV.wt g nN
    · exact EqV.rf g
  have e := e1.tr (EqV.t0 _)
  generalize T0 (dFits g nN set).2 = g2 at e ⊢
  unfold mFits dFits
  rw [e.setB, e.off, e.rd.brk, mask_eq hP hO hP10]
  have hM : mOff g nP < 1024 := Nat.lt_of_lt_of_le (mask_lt _ _) (pow_le_1024 hP10)
  by_cases q : set &&& (nI (mOff g nP) ^^^ -1) = 0
  · obtain ⟨S, hS, rfl, hd⟩ := sub_set hM q
    have ho := (mask_of hP).sub hd
    have hset : mSetB g (nI S) = true := by
      rw [mSetB, hC.1.2.1]
      exact setI_in nP (by omega) S ho.lt
    rw [if_pos q, if_pos hset, brk_eq hP hN hP10 (by omega) ho]
    split <;> exact ⟨rfl, e⟩
  · rw [if_neg q]
    split <;> exact ⟨rfl, e⟩
theorem c_red (h : Iv g T n nP nN nT nW C) (set : Int32) : dRed g nT set = (mRedF (T0 g) nT set).1 ∧ EqV g (mRedF (T0 g) nT set).2 := by
  obtain ⟨hC, ⟨hP, hN, hT, hU⟩, ⟨hO, hK, hW⟩, hX, hR, hc⟩ := h
  have e := EqV.t0 g
  generalize T0 g = g2 at e ⊢
  unfold dRed mRedF
  rw [e.setB, e.red, areP_eq hC.1.1 hC.1.2.1 hC.1.2.2]
  split
  next q =>
    obtain ⟨S, _, rfl⟩ := mSetB_set hC.1.2.1 hC.1.2.2 q
    rw [red_eq hT hC.1.2.2]
    exact ⟨rfl, e⟩
  next => exact ⟨rfl, e⟩
theorem c_chosen (h : Iv g T n nP nN nT nW C) : g 0 10 = (mChosen (T0 g)).1 ∧ EqV g (mChosen (T0 g)).2 := by
  have hX := h.2.2.2.1
  have e := EqV.t0 g
  generalize T0 g = g2 at e ⊢
  unfold mChosen
  rw [e.cut, e.2.2 24 (by decide) (by decide)]
  split
  next q => exact ⟨hX.off q, e⟩
  next q => exact ⟨(hX.on q).1.trans hX.2.1.symm, e⟩
theorem worth_eq (hP10 : nP ≤ 10) (hU : IvU g nP) {S : Nat} (ho : OfS g nP S) : sumI (g 4) S 10 = mSum g nP S := by
  rw [show (10 : Nat) = nP + (10 - nP) by omega, sumI_top ho.lt, mSum]
  exact sumI_congr nP (fun p hp hb => (hU p hp (ho p hb).2).2)
theorem c_worth (h : Iv g T n nP nN nT nW C) : dWorth g = (mWorthF (T0 g) nP).1 ∧ EqV g (mWorthF (T0 g) nP).2 := by
  obtain ⟨hC, ⟨hP, hN, hT, hU⟩, ⟨hO, hK, hW⟩, hX, hR, hc⟩ := h
  have e := EqV.t0 g
  generalize T0 g = g2 at e ⊢
  have h1 := hX.1
  unfold mWorthF dWorth
  rw [e.cut, e.2.2 24 (by decide) (by decide), e.sum, hX.2.1]
  split
  next q =>
    rw [if_neg (show ¬ g 25 25 = 0 from fun z => by rw [cut_off hX z] at q; cases q)]
    have q' : ¬ g 25 25 = 0 := fun z => by rw [cut_off hX z] at q; cases q
    rw [(hX.on q').1, nI_clamp (by omega), worth_eq hC.1.2.2 hU (hX.on q').2.1]
    exact ⟨rfl, e⟩
  next q =>
    rw [if_pos (show g 25 25 = 0 from Classical.byContradiction fun z => q (cut_on hX z))]
    exact ⟨rfl, e⟩
theorem or_of {S p : Nat} (ho : OfS g nP S) (hp : p < nP) (hq : ¬ g 3 p = -1) : OfS g nP (S ||| 2 ^ p) := by
  intro q hb
  rw [or_bit, Bool.or_eq_true, decide_eq_true_eq] at hb
  rcases hb with hb | rfl
  · exact ho q hb
  · exact ⟨hp, hq⟩
theorem c_why (h : Iv g T n nP nN nT nW C) (p : Int32) : (dWhy g nN nT p).1 = (mWhy (T0 (dWhy g nN nT p).2) nN nT p).1 ∧ EqV g (mWhy (T0 (dWhy g nN nT p).2) nN nT p).2 := by
  obtain ⟨hC, ⟨hP, hN, hT, hU⟩, ⟨hO, hK, hW⟩, hX, hR, hc⟩ := h
  have hP10 := hC.1.2.2
  have hC10 := hX.1
  have e1 : EqV g (dWhy g nN nT p).2 := by
    unfold dWhy
    split
    · split
      · split
        · exact EqV.rf g
        · split
          · exact EqV.rf g
          · split <;> exact EqV.wt g nN
      · exact EqV.rf g
    · exact EqV.rf g
  have e := e1.tr (EqV.t0 _)
  generalize T0 (dWhy g nN nT p).2 = g2 at e ⊢
  unfold mWhy dWhy orM orI
  simp only [e.cut, e.pt, e.at 27 (by decide), e.2.2 24 (by decide) (by decide), e.rd.brk, e.red, pt_eq hC]
  by_cases q : g 25 25 = 0
  · rw [cut_off hX q, if_neg (by decide), if_pos q]
    exact ⟨rfl, e⟩
  · rw [cut_on hX q, if_pos rfl, if_neg q]
    by_cases q2 : mIsPt g p = true
    · rw [if_pos q2, if_pos q2]
      obtain ⟨j, hj, rfl⟩ := pt_in hC q2
      rw [at10_nI (by omega), nI_clamp (by omega), (hP j hj).2, ch_eq hX q (by omega), hX.2.1, (hX.on q).1, isOfB_bit (by omega) (by omega), shl1 j (by omega), nx_or]
      by_cases q3 : g 27 j = -1
      · rw [if_pos q3, if_pos q3]
        exact ⟨rfl, e⟩
      · rw [if_neg q3, if_neg q3]
        have ho := or_of (hX.on q).2.1 hj (by rw [(hP j hj).2]; exact q3)
        have hl := ho.lt10 hP10
        rw [brk_eq hP hN hP10 (by omega) ho, red_eq hT hP10]
        split
        · exact ⟨rfl, e⟩
        · split
          · split <;> exact ⟨rfl, e⟩
          · exact ⟨rfl, e⟩
    · rw [if_neg q2, if_neg q2]
      exact ⟨rfl, e⟩
theorem c_told (h : Iv g T n nP nN nT nW C) (p wh : Int32) : dTold g p wh = (mTold (T0 g) p wh).1 ∧ EqV g (mTold (T0 g) p wh).2 := by
  obtain ⟨hC, ⟨hP, hN, hT, hU⟩, ⟨hO, hK, hW⟩, hX, hR, hc⟩ := h
  have hP10 := hC.1.2.2
  have e := EqV.t0 g
  generalize T0 g = g2 at e ⊢
  unfold mTold dTold
  simp only [e.pt, e.at 26 (by decide), e.at 27 (by decide), e.at 28 (by decide), e.at 29 (by decide), e.at 30 (by decide), pt_eq hC]
  by_cases q2 : mIsPt g p = true
  · rw [if_pos q2, if_pos q2]
    obtain ⟨j, hj, rfl⟩ := pt_in hC q2
    rw [at10_nI (by omega), at10_nI (by omega), at10_nI (by omega), at10_nI (by omega), nI_clamp (by omega)]
    have hk := hK j hj
    have ho := hO j (by omega)
    split
    · exact ⟨(hP j hj).1, e⟩
    · split
      · exact ⟨(hP j hj).2, e⟩
      · split
        · split
          next q3 => exact ⟨ho.2.1 (by rw [(hP j hj).2]; exact q3), e⟩
          next q3 => exact ⟨(hU j hj (by rw [(hP j hj).2]; exact q3)).2, e⟩
        · split
          · exact ⟨hk.1, e⟩
          · split
            · split
              next q3 => exact ⟨ho.2.2.2 (by rw [hk.1]; exact q3), e⟩
              next q3 => exact ⟨(hk.2 (by rw [hk.1]; exact q3)).2, e⟩
            · exact ⟨rfl, e⟩
  · rw [if_neg q2, if_neg q2]
    exact ⟨rfl, e⟩
theorem mHunt_c (e : EqV g g') (nT nP S : Nat) : mHunt g' nT nP S = mHunt g nT nP S := by
  have hr : mRedB g' nT = mRedB g nT := by
    funext S
    unfold mRedB
    rw [e.red]
  have hw : ∀ (S n k i c : Nat), mwpL g' nT nP S n k i c = mwpL g nT nP S n k i c := by
    intro S n k
    induction k with
    | zero => intro i c; rfl
    | succ k ih => intro i c; unfold mwpL; rw [hr, ih]
  have hf : ∀ (k S n : Nat) (ov : Bool) (c : Nat), mfoL g' nT nP k S n ov c = mfoL g nT nP k S n ov c := by
    intro k
    induction k with
    | zero => intro S n ov c; rfl
    | succ k ih => intro S n ov c; unfold mfoL; simp only [hw, ih]
  unfold mHunt
  rw [hr, hf]
theorem c_blame (h : Iv g T n nP nN nT nW C) (set : Int32) : (dBlame g nT set).1 = (mBlame (T0 (dBlame g nT set).2) nT nP set).1 ∧ EqV g (mBlame (T0 (dBlame g nT set).2) nT nP set).2 := by
  obtain ⟨hC, ⟨hP, hN, hT, hU⟩, ⟨hO, hK, hW⟩, hX, hR, hc⟩ := h
  have hP10 := hC.1.2.2
  have e1 : EqV g (dBlame g nT set).2 := by
    unfold dBlame
    split
    · exact EqV.sh g _ _
    · exact EqV.rf g
  have e := e1.tr (EqV.t0 _)
  generalize T0 (dBlame g nT set).2 = g2 at e ⊢
  unfold mBlame dBlame
  rw [e.setB, mHunt_c e, areP_eq hC.1.1 hC.1.2.1 hP10]
  split
  next q =>
    obtain ⟨S, hS, rfl⟩ := mSetB_set hC.1.2.1 hP10 q
    have := pow_le_1024 hP10
    rw [nI_clamp (by omega), hunt_eq hT hP10 hS]
    exact ⟨rfl, e.tr (EqV.sm _ _ _)⟩
  next => exact ⟨rfl, e⟩
theorem c_runs (h : Iv g T n nP nN nT nW C) (set : Int32) : (dRuns g nT set).1 = (mRuns (T0 (dRuns g nT set).2) nT nP set).1 ∧ EqV g (mRuns (T0 (dRuns g nT set).2) nT nP set).2 := by
  obtain ⟨hC, ⟨hP, hN, hT, hU⟩, ⟨hO, hK, hW⟩, hX, hR, hc⟩ := h
  have hP10 := hC.1.2.2
  have e1 : EqV g (dRuns g nT set).2 := by
    unfold dRuns
    split
    · exact EqV.sh g _ _
    · exact EqV.rf g
  have e := e1.tr (EqV.t0 _)
  generalize T0 (dRuns g nT set).2 = g2 at e ⊢
  unfold mRuns dRuns
  rw [e.setB, mHunt_c e, areP_eq hC.1.1 hC.1.2.1 hP10]
  split
  next q =>
    obtain ⟨S, hS, rfl⟩ := mSetB_set hC.1.2.1 hP10 q
    have := pow_le_1024 hP10
    rw [nI_clamp (by omega), hunt_eq hT hP10 hS]
    exact ⟨rfl, e.tr (EqV.sm _ _ _)⟩
  next => exact ⟨rfl, e⟩
theorem tr_in (hC : IvC g n nP nN nT nW) {t : Int32} (h : isTr g t = true) : ∃ j, j < n ∧ t = nI j := by
  unfold isTr at h
  rw [Bool.and_eq_true, Bool.not_eq_true', Bool.not_eq_true', decide_eq_false_iff_not, decide_eq_false_iff_not, hC.2.2.2.2.1] at h
  have := hC.2.2.2.2.2.2
  rcases pk_ix t (n := n) (by omega) with q | q | q
  · exact absurd q h.1
  · exact absurd q h.2
  · exact q
theorem c_brought (h : Iv g T n nP nN nT nW C) (t : Int32) : dBrought g T t = (mBrought (T0 g) t).1 ∧ EqV g (mBrought (T0 g) t).2 := by
  have hC := h.1
  have e := EqV.t0 g
  generalize T0 g = g2 at e ⊢
  unfold mBrought dBrought
  rw [e.2.2 23 (by decide) (by decide), e.at 40 (by decide)]
  by_cases q : isTr g t = true
  · rw [if_pos q]
    have q1 := q
    unfold isTr at q1
    rw [Bool.and_eq_true, Bool.not_eq_true', Bool.not_eq_true', decide_eq_false_iff_not, decide_eq_false_iff_not] at q1
    obtain ⟨j, hj, rfl⟩ := tr_in hC q
    have := hC.2.2.2.2.2.2
    rw [if_neg q1.1, hC.2.2.2.2.2.1, ← hC.2.2.2.2.1, if_neg q1.2, nI_clamp (by omega), (h.ld hj).2.1, (h.ld hj).2.2]
    exact ⟨rfl, e⟩
  · rw [if_neg q]
    split
    · exact ⟨rfl, e⟩
    next q2 =>
      split
      · exact ⟨rfl, e⟩
      next q3 =>
        rw [hC.2.2.2.2.2.1, ← hC.2.2.2.2.1] at q3
        exact absurd (by unfold isTr; rw [decide_eq_false q2, decide_eq_false q3]; rfl) q
theorem outN_congr {f f' : Nat → Int32} : ∀ n, (∀ t, t < n → f t = f' t) → outN f n = outN f' n
  | 0, _ => rfl
  | n + 1, h => by
    unfold outN
    rw [h n (Nat.lt_succ_self n), outN_congr n (fun t ht => h t (by omega))]
theorem dCount_e (g : Nat → Nat → Int32) (T : Nat → TR) (nN n : Nat) (wh : Int32) : EqV g (dCount g T nN n wh).2 := by
  unfold dCount
  by_cases q0 : wh = 0
  · rw [if_pos q0]; exact EqV.rf g
  rw [if_neg q0]
  by_cases q1 : wh = 1
  · rw [if_pos q1]; exact EqV.rf g
  rw [if_neg q1]
  by_cases q2 : wh = 2
  · rw [if_pos q2]; exact EqV.rf g
  rw [if_neg q2]
  by_cases q3 : wh = 3
  · rw [if_pos q3]; exact EqV.rf g
  rw [if_neg q3]
  by_cases q4 : wh = 4
  · rw [if_pos q4]; exact EqV.rf g
  rw [if_neg q4]
  by_cases q5 : wh = 5
  · rw [if_pos q5]; exact EqV.rf g
  rw [if_neg q5]
  by_cases q6 : wh = 6
  · rw [if_pos q6]; exact EqV.rf g
  rw [if_neg q6]
  by_cases q7 : wh = 7
  · rw [if_pos q7]
    cases cutB g
    · exact EqV.rf g
    · exact EqV.rf g
  rw [if_neg q7]
  by_cases q8 : wh = 8
  · rw [if_pos q8]
    by_cases q : brkD (wTo g nN) nN 0 = -1
    · rw [if_pos q]; exact EqV.wt g nN
    · rw [if_neg q]; exact EqV.wt g nN
  rw [if_neg q8]
  exact EqV.rf g
theorem c_count (h : Iv g T n nP nN nT nW C) (wh : Int32) : (dCount g T nN n wh).1 = (mCount (T0 (dCount g T nN n wh).2) nP nN n wh).1 ∧ EqV g (mCount (T0 (dCount g T nN n wh).2) nP nN n wh).2 := by
  obtain ⟨hC, ⟨hP, hN, hT, hU⟩, ⟨hO, hK, hW⟩, hX, hR, hc⟩ := h
  have hP10 := hC.1.2.2
  have e := (dCount_e g T nN n wh).tr (EqV.t0 _)
  generalize T0 (dCount g T nN n wh).2 = g2 at e ⊢
  have h0 : OfS g nP 0 := fun p hp => by rw [Nat.zero_testBit] at hp; cases hp
  have hbz : brkD (wTo g nN) nN 0 = mBrk g nN 0 := brk_eq (S := 0) hP hN hP10 (by decide) h0
  have hout : outN (bk T) n = outN (g 43) n := outN_congr n (fun t ht => (hR t ht).2.2.2.2.symm)
  unfold mCount dCount
  rw [e.cut, e.off, e.rd.brk, e.at 43 (by decide), e.2.2 19 (by decide) (by decide), e.2.2 20 (by decide) (by decide), e.2.2 21 (by decide) (by decide), e.2.2 22 (by decide) (by decide), e.2.2 23 (by decide) (by decide), hC.1.1, hC.1.2.1, hC.2.1.1, hC.2.1.2.1, hC.2.2.1.1, hC.2.2.1.2.1, hC.2.2.2.1.1, hC.2.2.2.1.2.1, hC.2.2.2.2.1, hC.2.2.2.2.2.1, mask_eq hP hO hP10, hbz, hout]
  by_cases q0 : wh = 0
  · rw [if_pos q0, if_pos q0]; exact ⟨rfl, e⟩
  rw [if_neg q0, if_neg q0]
  by_cases q1 : wh = 1
  · rw [if_pos q1, if_pos q1]; exact ⟨rfl, e⟩
  rw [if_neg q1, if_neg q1]
  by_cases q2 : wh = 2
  · rw [if_pos q2, if_pos q2]; exact ⟨rfl, e⟩
  rw [if_neg q2, if_neg q2]
  by_cases q3 : wh = 3
  · rw [if_pos q3, if_pos q3]; exact ⟨rfl, e⟩
  rw [if_neg q3, if_neg q3]
  by_cases q4 : wh = 4
  · rw [if_pos q4, if_pos q4]; exact ⟨rfl, e⟩
  rw [if_neg q4, if_neg q4]
  by_cases q5 : wh = 5
  · rw [if_pos q5, if_pos q5]; exact ⟨rfl, e⟩
  rw [if_neg q5, if_neg q5]
  by_cases q6 : wh = 6
  · rw [if_pos q6, if_pos q6]; exact ⟨rfl, e⟩
  rw [if_neg q6, if_neg q6]
  by_cases q7 : wh = 7
  · rw [if_pos q7, if_pos q7]
    by_cases q : g 25 25 = 0
    · rw [if_pos q, cut_off hX q, if_neg (by decide)]
      exact ⟨rfl, e⟩
    · rw [if_neg q, cut_on hX q, if_pos rfl]
      exact ⟨rfl, e⟩
  rw [if_neg q7, if_neg q7]
  by_cases q8 : wh = 8
  · rw [if_pos q8, if_pos q8]
    by_cases q : mBrk g nN 0 = -1
    · rw [if_pos q, if_pos q]; exact ⟨rfl, e⟩
    · rw [if_neg q, if_neg q]; exact ⟨rfl, e⟩
  rw [if_neg q8, if_neg q8]
  exact ⟨rfl, e⟩
theorem c_was (h : Iv g T n nP nN nT nW C) (t p bh : Int32) : EqV g (mWas g t p bh).2 ∧ ((wasOK g T t p = true ∧ (mWas g t p bh).2 25 0 = 0 ∧ (mWas g t p bh).1 = wasV T t p bh) ∨ (wasOK g T t p = false ∧ (mWas g t p bh).2 25 0 = 1)) := by
  obtain ⟨hC, ⟨hP, hN, hT, hU⟩, ⟨hO, hK, hW⟩, hX, hR, hc⟩ := h
  have hP10 := hC.1.2.2
  have hn := hC.2.2.2.2.2.2
  unfold mWas
  by_cases q1 : t < 0
  · rw [if_pos q1]
    exact ⟨EqV.th g 1, Or.inr ⟨by unfold wasOK isTr; rw [decide_eq_true q1]; rfl, rfl⟩⟩
  rw [if_neg q1]
  by_cases q2 : g 25 23 ≤ t
  · rw [if_pos q2]
    refine ⟨EqV.th g 1, Or.inr ⟨?_, rfl⟩⟩
    rw [hC.2.2.2.2.2.1, ← hC.2.2.2.2.1] at q2
    unfold wasOK isTr
    rw [decide_eq_true q2, Bool.not_true, Bool.and_false]
    rfl
  rw [if_neg q2]
  have ht : isTr g t = true := by
    unfold isTr
    rw [decide_eq_false q1, hC.2.2.2.2.1, ← hC.2.2.2.2.2.1, decide_eq_false q2]
    rfl
  obtain ⟨j, hj, rfl⟩ := tr_in hC ht
  obtain ⟨h1, h2, -, h4, -⟩ := hR j hj
  have cj : (nI j).toNatClampNeg = j := nI_clamp (by omega)
  rw [cj, h2]
  by_cases q3 : p < 0
  · rw [if_pos q3]
    refine ⟨EqV.th g 1, Or.inr ⟨?_, rfl⟩⟩
    unfold wasOK
    rw [decide_eq_true q3, Bool.not_true, Bool.false_and, Bool.and_false]
  rw [if_neg q3]
  by_cases q4 : p < nI (T j).1
  · rw [if_pos q4]
    obtain ⟨i, hi, rfl⟩ : ∃ i, i < (T j).1 ∧ p = nI i := by
      obtain ⟨i, hi, rfl⟩ := nI_of q3
      exact ⟨i, ltK hi (by omega) q4, rfl⟩
    have hix : (10 * nI j + nI i).toNatClampNeg = 10 * j + i := by
      rw [show (10 : Int32) = nI 10 from rfl, pk_mul, nI_add, nI_clamp (by omega)]
    have hok : wasOK g T (nI j) (nI i) = true := by
      unfold wasOK
      rw [ht, decide_eq_false q3, cj, decide_eq_true q4]
      rfl
    rw [hix, (h4 i hi).1, (h4 i hi).2]
    unfold wasV
    rw [cj, nI_clamp (show i < 2 ^ 31 by omega)]
    by_cases q5 : bh = 0
    · rw [if_pos q5, if_pos q5]
      exact ⟨EqV.th g 0, Or.inl ⟨hok, rfl, rfl⟩⟩
    · rw [if_neg q5, if_neg q5]
      exact ⟨EqV.th g 0, Or.inl ⟨hok, rfl, rfl⟩⟩
  · rw [if_neg q4]
    refine ⟨EqV.th g 1, Or.inr ⟨?_, rfl⟩⟩
    unfold wasOK
    rw [cj, decide_eq_false q4, Bool.and_false, Bool.and_false]
end INV2
