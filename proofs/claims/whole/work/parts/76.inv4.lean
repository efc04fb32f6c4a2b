/-! ===== the cut, fixes, the order ===== -/
section INV4
variable {g g' : Nat → Nat → Int32} {T : Nat → TR} {n nP nN nT nW C : Nat}
theorem row_f : ∀ (k s m : Nat) (f f' : Nat → Int32), (rowL g nN nP C k s m f).2 = (rowL g nN nP C k s m f').2 ∧ m ≤ (rowL g nN nP C k s m f).2 ∧ ∀ i, (f i = f' i ∨ (m ≤ i ∧ i < (rowL g nN nP C k s m f).2)) → (rowL g nN nP C k s m f).1 i = (rowL g nN nP C k s m f').1 i
  | 0, s, m, f, f' => ⟨rfl, Nat.le_refl _, fun i hi => by
    rcases hi with hi | ⟨h1, h2⟩
    · exact hi
    · exact absurd h1 (Nat.not_le.mpr h2)⟩
  | k + 1, s, m, f, f' => by
    by_cases e : s = C
    · have h : ∀ f, rowL g nN nP C (k + 1) s m f = (f, m) := fun f => by unfold rowL; rw [if_pos e]
      rw [h, h]
      refine ⟨rfl, Nat.le_refl _, fun i hi => ?_⟩
      rcases hi with hi | ⟨h1, h2⟩
      · exact hi
      · exact absurd h1 (Nat.not_le.mpr h2)
    · have h : ∀ f, rowL g nN nP C (k + 1) s m f = rowL g nN nP C k (s ||| 2 ^ (fi (mOpen g nN C s) nP 0).toNatClampNeg) (m + 1) (upd f m (fi (mOpen g nN C s) nP 0)) := fun f => by
        conv => lhs; unfold rowL
        rw [if_neg e]
      rw [h, h]
      obtain ⟨h1, h2, h3⟩ := row_f k (s ||| 2 ^ (fi (mOpen g nN C s) nP 0).toNatClampNeg) (m + 1) (upd f m (fi (mOpen g nN C s) nP 0)) (upd f' m (fi (mOpen g nN C s) nP 0))
      refine ⟨h1, by omega, fun i hi => h3 i ?_⟩
      by_cases z : i = m
      · subst z
        exact Or.inl (by rw [pk_us, pk_us])
      · rcases hi with hi | ⟨h4, h5⟩
        · exact Or.inl (by rw [pk_un z, pk_un z]; exact hi)
        · exact Or.inr ⟨by omega, h5⟩
theorem fiB_c {w w' : Nat → Nat → Int32} {n : Nat} (h : ∀ k, k < n → w' 14 k = w 14 k ∧ w' 15 k = w 15 k) (s : Int32) : fi (pBrk (w' 14) (w' 15) s) n 0 = fi (pBrk (w 14) (w 15) s) n 0 := fi_congr n 0 (fun j _ hj => by
  unfold pBrk
  rw [(h j (by omega)).1, (h j (by omega)).2])
theorem pOpen_c {w w' : Nat → Nat → Int32} {n : Nat} (h : ∀ k, k < n → w' 14 k = w 14 k ∧ w' 15 k = w 15 k) (G s : Nat) : pOpen w' n G s = pOpen w n G s := by
  funext p
  unfold pOpen
  rw [fiB_c h]
theorem planL_c {w w' : Nat → Nat → Int32} {n G sz : Nat} (h : ∀ k, k < n → w' 14 k = w 14 k ∧ w' 15 k = w 15 k) : ∀ (k i : Nat) (f : Nat → Int32) (o : Option Nat), planL w' n G sz k i f o = planL w n G sz k i f o
  | 0, _, _, _ => rfl
  | k + 1, i, f, none => by unfold planL; rfl
  | k + 1, i, f, some s => by
    unfold planL
    simp only [pOpen_c h, planL_c h k]
theorem planL_none {w : Nat → Nat → Int32} {n G sz : Nat} : ∀ (k i : Nat) (f : Nat → Int32), (planL w n G sz k i f none).2 = none
  | 0, _, _ => rfl
  | k + 1, i, f => by
    unfold planL
    first
      | rfl
      | (split <;> rfl)
theorem rt_of (hP : IvP g nP) (hN : IvN g nP nN) (hP10 : nP ≤ 10) (hN30 : nN ≤ 30) (ho : OfS g nP C) (fC : FitR g nN C) (h25 : ¬ g 25 25 = 0) {w : Nat → Nat → Int32} (hw : ∀ k, k < nN → w 14 k = wA g k ∧ w 15 k = wB g k) (h19 : g 19 = (plan w nN C).1) (h18 : g 18 1 = if sI (plan w nN C).2 = -1 then -1 else nI (popc C)) : RtOK g nP nN C := by
  have hC := ho.lt10 hP10
  have hw' : ∀ k, k < nN → w 14 k = wTo g nN 14 k ∧ w 15 k = wTo g nN 15 k := fun k hk => by
    rw [show wTo g nN 14 k = wA g k from if_pos hk, show wTo g nN 15 k = wB g k from if_pos hk]
    exact hw k hk
  have h0 : OfS g nP 0 := fun p hp => by rw [Nat.zero_testBit] at hp; cases hp
  have hp : plan w nN C = planL (wTo g nN) nN C (popc C) 11 0 (w 19) (if mBrk g nN 0 = -1 then some 0 else none) := by
    unfold plan
    rw [planL_c hw', fiB_c hw', show fi (pBrk (wTo g nN 14) (wTo g nN 15) 0) nN 0 = mBrk g nN 0 from brk_eq (S := 0) hP hN hP10 (by decide) h0]
  have hd : dif C 0 = C := by
    apply Nat.eq_of_testBit_eq
    intro i
    rw [dif_bit, Nat.zero_testBit, Bool.not_false, Bool.and_true]
  have hpc := popc_le C hC
  by_cases f0 : mBrk g nN 0 = -1
  · rw [if_pos f0] at hp
    obtain ⟨r1, r2⟩ := plan_row (sz := popc C) hP hN hP10 hC ho 11 0 0 10 (w 19) (by decide) (fun p hp => by rw [Nat.zero_testBit] at hp; cases hp) (by rw [hd, Nat.zero_add]) (by rw [hd]; show popc C < 11; omega) (by rw [hd]; exact hpc)
    by_cases hg : gOK g nN nP C 10 0
    · obtain ⟨r3, r4⟩ := r1 hg
      rw [← hp] at r3
      obtain ⟨t1, _, t3⟩ := row_f (g := g) (nN := nN) (nP := nP) (C := C) 10 0 0 (w 19) (fun _ => 0)
      refine ⟨true, ⟨fun _ => ⟨h25, f0, hg⟩, fun z => by cases z⟩, fun _ => ⟨?_, ?_, fun i hi => ?_⟩, fun z => by cases z⟩
      · rw [h18, r3, if_neg (show ¬ sI (some C) = -1 from nI_ne_m1 (by omega))]
      · exact t1.symm.trans r4
      · rw [h19, r3]
        exact t3 i (Or.inr ⟨Nat.zero_le _, by rw [r4]; exact hi⟩)
    · have r3 := r2 hg
      rw [← hp] at r3
      have hr : ¬ rch g nN nP C 10 0 := by
        rcases route_or (hN.mnok hP10) hN30 hP10 hC fC f0 with z | z
        · exact absurd z hg
        · exact z
      exact ⟨false, ⟨fun z => (by cases z), fun _ => Or.inr (Or.inr hr)⟩, fun z => (by cases z), fun _ => by rw [h18, r3, if_pos (show sI none = -1 from rfl)]⟩
  · rw [if_neg f0] at hp
    have r3 : (plan w nN C).2 = none := by rw [hp]; exact planL_none 11 0 (w 19)
    exact ⟨false, ⟨fun z => (by cases z), fun _ => Or.inr (Or.inl f0)⟩, fun z => (by cases z), fun _ => by rw [h18, r3, if_pos (show sI none = -1 from rfl)]⟩
/-- what the reference weighs sets by -/
def MR (g g' : Nat → Nat → Int32) : Prop := ∀ k, 26 ≤ k → k ≤ 36 → g' k = g k
theorem MR.rd (h : MR g g') : RD g g' := ⟨h 26 (by decide) (by decide), h 27 (by decide) (by decide), h 31 (by decide) (by decide), h 32 (by decide) (by decide), h 33 (by decide) (by decide), h 34 (by decide) (by decide), h 35 (by decide) (by decide)⟩
theorem MR.goes (h : MR g g') (nP nN nT : Nat) (s : Int32) : mGoes g' nP nN nT s = mGoes g nP nN nT s := by
  unfold mGoes mOff mRed
  rw [h.rd.brk, h 27 (by decide) (by decide), h 36 (by decide) (by decide)]
theorem MR.best (h : MR g g') (nP nN nT U M : Nat) : mBest g' nP nN nT U M = mBest g nP nN nT U M := by
  have h1 : ∀ s b, mCand g' nP nN nT U M s b = mCand g nP nN nT U M s b := fun s b => by
    unfold mCand mBet mSum
    rw [h.goes, h 28 (by decide) (by decide)]
  have h2 : ∀ k s b, mbL g' nP nN nT U M k s b = mbL g nP nN nT U M k s b := by
    intro k
    induction k with
    | zero => intro s b; rfl
    | succ k ih => intro s b; unfold mbL; rw [h1, ih]
  exact h2 _ _ _
theorem chG_k {S k : Nat} (h0 : k ≠ 0) (h14 : k ≠ 14) (h15 : k ≠ 15) (h18 : k ≠ 18) (h19 : k ≠ 19) : chooseG g nN S k = g k := by
  unfold chooseG planG wTo
  rw [va_up_ne _ _ h18, va_up_ne _ _ h19, va_up_ne _ _ h15, va_up_ne _ _ h14, va_up_ne _ _ h0]
theorem T0_k {k : Nat} (h : k ≠ 25) : T0 g k = g k := va_up_ne _ _ h
theorem wTo_k {i k : Nat} (h14 : k ≠ 14) (h15 : k ≠ 15) : wTo g i k = g k := by
  unfold wTo
  rw [va_up_ne _ _ h15, va_up_ne _ _ h14]
theorem c_cut (h : Iv g T n nP nN nT nW C) : (dCut g nN nT).1 = (mCut (T0 (dCut g nN nT).2) nP nN nT).1 ∧ IV (mCut (T0 (dCut g nN nT).2) nP nN nT).2 T n := by
  have hI := h
  obtain ⟨hC, ⟨hP, hN, hT, hU⟩, ⟨hO, hK, hW⟩, hX, hR, hc⟩ := h
  have hP10 := hC.1.2.2
  have hN30 := hC.2.1.2.2
  unfold dCut
  by_cases q1 : g 25 25 = 0
  · rw [cut_off hX q1, if_neg (by decide), mask_eq hP hO hP10, best_eq (M := mOff g nP) hP hN hT hU hP10 (mask_lt _ _) (mask_of hP)]
    have hmx := mBest_mx (g := g) (nP := nP) (nN := nN) (nT := nT) (U := 0) (M := mOff g nP) hP10
    cases hb : mBest g nP nN nT 0 (mOff g nP) with
    | none =>
      rw [if_pos (show sI none = -1 from rfl)]
      have e : EqV g (T0 (wTo g nN)) := (EqV.wt g nN).tr (EqV.t0 _)
      have hm : MR g (T0 (wTo g nN)) := fun k h1 h2 => e.at k (by simp only [Bool.and_eq_true, Bool.not_eq_true', decide_eq_true_eq, decide_eq_false_iff_not]; omega)
      unfold mCut
      rw [if_pos (by exact q1)]
      rw [show mOff (T0 (sI none, wTo g nN).2) nP = mOff g nP from rfl, show mBest (T0 (sI none, wTo g nN).2) nP nN nT 0 (mOff g nP) = none from (hm.best nP nN nT 0 (mOff g nP)).trans hb, if_pos (show sI none = -1 from rfl)]
      exact ⟨rfl, hI.iv e⟩
    | some m =>
      rw [hb] at hmx
      obtain ⟨hm2, hok, _⟩ := hmx.1 m rfl
      have hm10 : m < 1024 := Nat.lt_of_lt_of_le hm2 (pow_le_1024 hP10)
      rw [okM, Bool.and_eq_true, Bool.and_eq_true, mGoes, Bool.and_eq_true, Bool.and_eq_true, decide_eq_true_eq, decide_eq_true_eq, decide_eq_true_eq, decide_eq_true_eq] at hok
      have ho : OfS g nP m := (mask_of hP).sub hok.2.1
      have hf : FitR g nN m := hok.2.2.2.1
      rw [if_neg (show ¬ sI (some m) = -1 from nI_ne_m1 (by omega)), show (sI (some m)).toNatClampNeg = m from nI_clamp (by omega)]
      have hmr : MR g (T0 (chooseG (wTo g nN) nN m)) := fun k h1 h2 => by rw [T0_k (by omega), chG_k (by omega) (by omega) (by omega) (by omega) (by omega), wTo_k (by omega) (by omega)]
      unfold mCut
      rw [if_pos (by exact q1)]
      rw [show mOff (T0 (sI (some m), chooseG (wTo g nN) nN m).2) nP = mOff g nP from rfl, show mBest (T0 (sI (some m), chooseG (wTo g nN) nN m).2) nP nN nT 0 (mOff g nP) = some m from (hmr.best nP nN nT 0 (mOff g nP)).trans hb, if_neg (show ¬ sI (some m) = -1 from nI_ne_m1 (by omega))]
      refine ⟨rfl, nP, nN, nT, nW, m, hC, ⟨hP, hN, hT, hU⟩, ⟨hO, hK, hW⟩, ⟨hm10, rfl, Or.inr ⟨rfl, show ¬ (1 : Int32) = 0 by decide, ho, hf, ?_⟩⟩, hR, hc⟩
      exact rt_of (w := wTo (va_up (wTo g nN) 0 (upd (wTo g nN 0) 10 (nI m))) nN) hP hN hP10 hN30 ho hf (show ¬ (1 : Int32) = 0 by decide) (fun k hk => ⟨if_pos hk, if_pos hk⟩) rfl rfl
  · rw [cut_on hX q1, if_pos rfl]
    unfold mCut
    rw [if_neg (by exact q1)]
    exact ⟨rfl, hI.iv (EqV.t0 g)⟩
theorem may_eq (hC : IvC g n nP nN nT nW) (hP : IvP g nP) (hX : IvX g nP nN C) (p v u : Int32) : mayB g p v u = mMay g p v u := by
  have hP10 := hC.1.2.2
  have hC10 := hX.1
  unfold mayB mMay
  by_cases q1 : g 25 25 = 0
  · rw [cut_off hX q1, decide_eq_true q1]
    rfl
  · rw [cut_on hX q1, decide_eq_false q1, pt_eq hC, Bool.not_false, Bool.true_and, Bool.true_and]
    by_cases q2 : mIsPt g p = true
    · obtain ⟨j, hj, rfl⟩ := pt_in hC q2
      rw [ch_eq hX q1 (by omega), hX.2.1, isOfB_bit (by omega) (by omega), nI_clamp (by omega), (hP j hj).1]
      rfl
    · rw [Bool.eq_false_iff.mpr q2]
      rfl
theorem may_out {p v u : Int32} (hC : IvC g n nP nN nT nW) (hX : IvX g nP nN C) (h : mMay g p v u = true) : ¬ g 25 25 = 0 ∧ ∃ j, j < nP ∧ p = nI j ∧ isInB v 0 1000 = true ∧ isInB u 1 1000 = true ∧ ¬ v = g 26 j := by
  have hP10 := hC.1.2.2
  simp only [mMay, Bool.and_eq_true, Bool.not_eq_true', decide_eq_false_iff_not] at h
  obtain ⟨h1, h2, h3, h4, _, h6⟩ := h
  obtain ⟨j, hj, rfl⟩ := pt_in hC h2
  rw [nI_clamp (by omega)] at h6
  exact ⟨h1, j, hj, rfl, h3, h4, h6⟩
/-- the desk's offers with a fix put in, both -/
def JF (g : Nat → Nat → Int32) (j : Nat) (v u : Int32) : Nat → Nat → Int32 := va_up (va_up (va_up (va_up g 3 (upd (g 3) j v)) 4 (upd (g 4) j u)) 27 (upd (g 27) j v)) 28 (upd (g 28) j u)
theorem upd_bk (f : Nat → Int32) (j : Nat) (v : Int32) : upd (upd f j v) j (f j) = f := by
  rw [upd_upd]
  funext i
  by_cases z : i = j
  · subst z; exact pk_us
  · exact pk_un z
theorem grt_c {w w' : Nat → Nat → Int32} {nN nT M U : Nat} (h4 : w' 4 = w 4) (hg : ∀ x, goesB w' nN nT x = goesB w nN nT x) : grt w' nN nT M U = grt w nN nT M U := by
  have h1 : ∀ s b x, candB w' nN nT M U s b x = candB w nN nT M U s b x := fun s b x => by
    unfold candB
    rw [h4, hg]
  have h2 : ∀ k b x, grL w' nN nT M U k b x = grL w nN nT M U k b x := by
    intro k
    induction k with
    | zero => intro b x; rfl
    | succ k ih => intro b x; unfold grL; simp only [h1, h4, ih]
  exact h2 _ _ _
theorem goes_J {j : Nat} (hj : j < 10) (v u x : Int32) : goesB (wTo (put10 g 2 (nI j) v u) nN) nN nT x = goesB (wTo (JF g j v u) nN) nN nT x := by
  rw [put_nI hj]
  rfl
theorem JF_iv (h : Iv g T n nP nN nT nW C) {j : Nat} (hj : j < nP) {v u : Int32} (hv : isInB v 0 1000 = true) (hu : isInB u 1 1000 = true) (hvh : ¬ v = g 26 j) : IvP (JF g j v u) nP ∧ IvU (JF g j v u) nP ∧ IvO (JF g j v u) nP := by
  obtain ⟨hC, ⟨hP, hN, hT, hU⟩, ⟨hO, hK, hW⟩, hX, hR, hc⟩ := h
  exact off_put (g' := JF g j v u) hP hU hO hj (v := v) (u := u) (Or.inr ⟨ver_m1 hv, fun z => hvh (z.trans (hP j hj).1), pk_us, in_n (a := 1) (Or.inr rfl) hu⟩) rfl rfl rfl rfl rfl (fun q hq => pk_un hq) rfl rfl
theorem JF_of (h : Iv g T n nP nN nT nW C) (hcut : ¬ g 25 25 = 0) {j : Nat} (hj : j < nP) {v u : Int32} (hv : isInB v 0 1000 = true) : OfS (JF g j v u) nP (C ||| 2 ^ j) := by
  have ho := (h.2.2.2.1.on hcut).2.1
  intro q hb
  rw [or_bit, Bool.or_eq_true, decide_eq_true_eq] at hb
  show q < nP ∧ ¬ upd (g 3) j v q = -1
  by_cases z : q = j
  · subst z
    rw [pk_us]
    exact ⟨hj, ver_m1 hv⟩
  · rw [pk_un z]
    rcases hb with hb | hb
    · exact ho q hb
    · exact absurd hb.symm z
theorem c_leave (h : Iv g T n nP nN nT nW C) (p v u : Int32) : (dLeave g nN nT p v u).1 = (mLeave (T0 (dLeave g nN nT p v u).2) nP nN nT p v u).1 ∧ IV (mLeave (T0 (dLeave g nN nT p v u).2) nP nN nT p v u).2 T n := by
  have hI := h
  obtain ⟨hC, ⟨hP, hN, hT, hU⟩, ⟨hO, hK, hW⟩, hX, hR, hc⟩ := h
  have hP10 := hC.1.2.2
  have hC10 := hX.1
  unfold dLeave
  rw [may_eq hC hP hX]
  by_cases q1 : mMay g p v u = true
  · rw [if_pos q1]
    obtain ⟨hcut, j, hj, rfl, hv, hu, hvh⟩ := may_out hC hX q1
    obtain ⟨jP, jU, jO⟩ := JF_iv hI hj hv hu hvh
    have jo := JF_of hI hcut hj (u := u) hv
    have hS := jo.lt10 hP10
    unfold lvS
    rw [grt_c (w := wTo (JF g j v u) nN) (by rw [put_nI (by omega)]; rfl) (fun x => goes_J (by omega) v u x), orI, (hX.on hcut).1, shl1 j (by omega), nx_or, nI_clamp (by omega), nI_clamp (show 2 ^ j < 2 ^ 31 from Nat.pow_lt_pow_right (by decide) (by omega)), best_eq (g := JF g j v u) jP hN hT jU hP10 jo.lt jo, put_nI (show j < 10 by omega), put_nI (show j < 10 by omega), at10_nI (show j < 10 by omega), at10_nI (show j < 10 by omega)]
    generalize hg1 : va_up (va_up (wTo (va_up (va_up g (2 + 1) (upd (g (2 + 1)) j v)) (2 + 2) (upd (g (2 + 2)) j u)) nN) (2 + 1) (upd (wTo (va_up (va_up g (2 + 1) (upd (g (2 + 1)) j v)) (2 + 2) (upd (g (2 + 2)) j u)) nN (2 + 1)) j (g 3 j))) (2 + 2) (upd (wTo (va_up (va_up g (2 + 1) (upd (g (2 + 1)) j v)) (2 + 2) (upd (g (2 + 2)) j u)) nN (2 + 2)) j (g 4 j)) = g1
    have e1 : EqV g g1 := by
      rw [← hg1]
      refine ⟨fun k h0 h1 h2 h3 h4 h5 => ?_, rfl, fun _ _ _ => rfl⟩
      by_cases z3 : k = 3
      · subst z3
        exact upd_bk (g 3) j v
      by_cases z4 : k = 4
      · subst z4
        exact upd_bk (g 4) j u
      rw [va_up_ne _ _ z4, va_up_ne _ _ z3, wTo_k h1 h2, va_up_ne _ _ z4, va_up_ne _ _ z3]
    have e2 := e1.tr (EqV.t0 g1)
    have hmay : mMay (T0 g1) (nI j) v u = mMay g (nI j) v u := by
      unfold mMay
      rw [e2.cut, e2.pt, e2.2.2 24 (by decide) (by decide), e2.at 26 (by decide)]
    unfold mLeave
    dsimp only
    rw [hmay, if_pos q1]
    dsimp only
    unfold mLvS orM
    have cj : (nI j).toNatClampNeg = j := nI_clamp (by omega)
    have hmr : MR (JF g j v u) (tryG (T0 g1) (nI j) v u) := fun k h1 h2 => by
      unfold tryG JF
      rw [cj]
      by_cases z8 : k = 28
      · subst z8
        show upd (T0 g1 28) j u = upd (g 28) j u
        rw [e2.at 28 (by decide)]
      by_cases z7 : k = 27
      · subst z7
        show upd (T0 g1 27) j v = upd (g 27) j v
        rw [e2.at 27 (by decide)]
      rw [va_up_ne _ _ z8, va_up_ne _ _ z7, va_up_ne _ _ (by omega), va_up_ne _ _ (by omega), va_up_ne _ _ z8, va_up_ne _ _ z7, va_up_ne _ _ (by omega), va_up_ne _ _ (by omega), e2.at k (by simp only [Bool.and_eq_true, Bool.not_eq_true', decide_eq_true_eq, decide_eq_false_iff_not]; omega)]
    rw [hmr.best, e2.2.2 24 (by decide) (by decide), hX.2.1, shl1 j (by omega), nx_or, nI_clamp (show C ||| 2 ^ j < 2 ^ 31 by omega), nI_clamp (show 2 ^ j < 2 ^ 31 from Nat.pow_lt_pow_right (by decide) (by omega))]
    refine ⟨rfl, hI.iv (e2.tr ⟨fun k h0 h1 h2 h3 h4 h5 => ?_, rfl, fun i h1 h2 => ?_⟩)⟩
    · unfold untryG tryG
      rw [cj]
      by_cases z8 : k = 28
      · subst z8
        exact upd_bk (T0 g1 28) j u
      by_cases z7 : k = 27
      · subst z7
        exact upd_bk (T0 g1 27) j v
      rw [va_up_ne _ _ z8, va_up_ne _ _ z7, va_up_ne _ _ z8, va_up_ne _ _ z7, va_up_ne _ _ h5, va_up_ne _ _ h5]
    · show upd (upd (T0 g1 25) 26 _) 27 _ i = _
      rw [pk_un (by omega), pk_un (by omega)]
  · rw [if_neg q1]
    unfold mLeave
    rw [if_neg (by exact q1)]
    exact ⟨rfl, hI.iv (EqV.t0 g)⟩
theorem goesM_eq {S : Nat} (hP : IvP g nP) (hN : IvN g nP nN) (hT : IvT g nP nT) (hP10 : nP ≤ 10) (ho : OfS g nP S) : goesB (wTo g nN) nN nT (nI S) = mGoes g nP nN nT (nI S) := by
  have hS := ho.lt10 hP10
  rw [goes_eq hP hN hT hP10 (by omega) ho]
  unfold mGoes
  have hd : dif S (mOff g nP) = 0 := by
    apply Nat.eq_of_testBit_eq
    intro i
    rw [dif_bit, Nat.zero_testBit, mOff, maskN_bit]
    cases hb : S.testBit i
    · rfl
    · have := ho i hb
      rw [decide_eq_true this.1, ← (hP i this.1).2, decide_eq_false this.2]
      rfl
  rw [nx_dif, hd, decide_eq_true (show nI 0 = 0 from rfl), Bool.true_and]
theorem c_fix (h : Iv g T n nP nN nT nW C) (p v u : Int32) : (dFix g nN nT p v u).1 = (mFix (T0 (dFix g nN nT p v u).2) nP nN nT p v u).1 ∧ IV (mFix (T0 (dFix g nN nT p v u).2) nP nN nT p v u).2 T n := by
  have hI := h
  obtain ⟨hC, ⟨hP, hN, hT, hU⟩, ⟨hO, hK, hW⟩, hX, hR, hc⟩ := h
  have hP10 := hC.1.2.2
  have hN30 := hC.2.1.2.2
  have hC10 := hX.1
  unfold dFix
  rw [may_eq hC hP hX]
  by_cases q1 : mMay g p v u = true
  · rw [if_pos q1]
    obtain ⟨hcut, j, hj, rfl, hv, hu, hvh⟩ := may_out hC hX q1
    obtain ⟨jP, jU, jO⟩ := JF_iv hI hj hv hu hvh
    have jo := JF_of hI hcut hj (u := u) hv
    have hS := jo.lt10 hP10
    have cj : (nI j).toNatClampNeg = j := nI_clamp (by omega)
    have hor : orI g (nI j) = nI (C ||| 2 ^ j) := by rw [orI, (hX.on hcut).1, shl1 j (by omega), nx_or]
    rw [hor, goes_J (by omega), goesM_eq jP hN hT hP10 jo, put_nI (show j < 10 by omega), put_nI (show j < 10 by omega), at10_nI (show j < 10 by omega), at10_nI (show j < 10 by omega), nI_clamp (show C ||| 2 ^ j < 2 ^ 31 by omega)]
    by_cases q2 : mGoes (JF g j v u) nP nN nT (nI (C ||| 2 ^ j)) = true
    · rw [if_pos q2]
      have hf : FitR (JF g j v u) nN (C ||| 2 ^ j) := by
        rw [mGoes, Bool.and_eq_true, Bool.and_eq_true, decide_eq_true_eq] at q2
        rw [decide_eq_true_eq] at q2
        exact q2.2.1
      generalize hg1 : chooseG (wTo (va_up (va_up g (2 + 1) (upd (g (2 + 1)) j v)) (2 + 2) (upd (g (2 + 2)) j u)) nN) nN (C ||| 2 ^ j) = g1
      have hgk : ∀ k, 20 ≤ k → g1 k = g k := fun k hk => by
        rw [← hg1, chG_k (by omega) (by omega) (by omega) (by omega) (by omega), wTo_k (by omega) (by omega), va_up_ne _ _ (by omega), va_up_ne _ _ (by omega)]
      have hmr : MR (JF g j v u) (tryG (T0 g1) (nI j) v u) := fun k h1 h2 => by
        unfold tryG JF
        rw [cj]
        by_cases z8 : k = 28
        · subst z8
          show upd (T0 g1 28) j u = upd (g 28) j u
          rw [T0_k (by decide), hgk 28 (by decide)]
        by_cases z7 : k = 27
        · subst z7
          show upd (T0 g1 27) j v = upd (g 27) j v
          rw [T0_k (by decide), hgk 27 (by decide)]
        rw [va_up_ne _ _ z8, va_up_ne _ _ z7, va_up_ne _ _ (by omega), va_up_ne _ _ (by omega), va_up_ne _ _ z8, va_up_ne _ _ z7, va_up_ne _ _ (by omega), va_up_ne _ _ (by omega), T0_k (by omega), hgk k (by omega)]
      have horM : orM (T0 g1) (nI j) = nI (C ||| 2 ^ j) := by
        rw [orM, show T0 g1 25 24 = g1 25 24 from rfl, hgk 25 (by decide), hX.2.1, shl1 j (by omega), nx_or]
      have hmay : mMay (T0 g1) (nI j) v u = mMay g (nI j) v u := by
        unfold mMay mIsPt
        rw [show T0 g1 25 25 = g1 25 25 from rfl, show T0 g1 25 24 = g1 25 24 from rfl, show T0 g1 25 19 = g1 25 19 from rfl, show T0 g1 26 = g1 26 from rfl, hgk 25 (by decide), hgk 26 (by decide)]
      unfold mFix
      rw [show ((1 : Int32), g1).2 = g1 from rfl, hmay, if_pos q1, horM, hmr.goes, if_pos q2]
      have e0 : g1 0 = upd (g 0) 10 (nI (C ||| 2 ^ j)) := by rw [← hg1]; rfl
      have e1 : g1 1 = g 1 := by rw [← hg1]; rfl
      have e3 : g1 3 = upd (g 3) j v := by rw [← hg1]; rfl
      have e4 : g1 4 = upd (g 4) j u := by rw [← hg1]; rfl
      have eN : ∀ k, (k = 6 ∨ k = 7 ∨ k = 8 ∨ k = 9 ∨ k = 10 ∨ k = 11 ∨ k = 12 ∨ k = 13 ∨ k = 16 ∨ k = 17) → g1 k = g k := fun k hk => by
        rw [← hg1, chG_k (by omega) (by omega) (by omega) (by omega) (by omega), wTo_k (by omega) (by omega), va_up_ne _ _ (by omega), va_up_ne _ _ (by omega)]
      generalize hg2 : va_up (tryG (T0 g1) (nI j) v u) 25 (upd (tryG (T0 g1) (nI j) v u 25) 24 (nI (C ||| 2 ^ j))) = g2
      have d25 : ∀ i, 19 ≤ i → i ≤ 25 → i ≠ 24 → g2 25 i = g 25 i := fun i h1 h2 h3 => by
        rw [← hg2]
        show upd (upd (upd (T0 g1 25) 26 _) 27 _) 24 _ i = _
        rw [pk_un h3, pk_un (by omega), pk_un (by omega), show T0 g1 25 = upd (g1 25) 0 0 from rfl, pk_un (by omega), hgk 25 (by decide)]
      have d24 : g2 25 24 = nI (C ||| 2 ^ j) := by
        rw [← hg2]
        show upd (tryG (T0 g1) (nI j) v u 25) 24 (nI (C ||| 2 ^ j)) 24 = _
        exact pk_us
      have dk : ∀ k, k ≠ 25 → k ≠ 27 → k ≠ 28 → g2 k = g1 k := fun k h1 h2 h3 => by
        rw [← hg2]
        unfold tryG
        rw [va_up_ne _ _ h1, va_up_ne _ _ h3, va_up_ne _ _ h2, va_up_ne _ _ h1, va_up_ne _ _ h1, T0_k h1]
      have d27 : g2 27 = upd (g 27) j v := by
        rw [← hg2]
        unfold tryG
        rw [cj]
        show upd (T0 g1 27) j v = _
        rw [T0_k (by decide), hgk 27 (by decide)]
      have d28 : g2 28 = upd (g 28) j u := by
        rw [← hg2]
        unfold tryG
        rw [cj]
        show upd (T0 g1 28) j u = _
        rw [T0_k (by decide), hgk 28 (by decide)]
      have dg : ∀ k, 20 ≤ k → k ≠ 25 → k ≠ 27 → k ≠ 28 → g2 k = g k := fun k h0 h1 h2 h3 => (dk k h1 h2 h3).trans (hgk k h0)
      have dN : ∀ k, (k = 6 ∨ k = 7 ∨ k = 8 ∨ k = 9 ∨ k = 10 ∨ k = 11 ∨ k = 12 ∨ k = 13 ∨ k = 16 ∨ k = 17) → g2 k = g k := fun k hk => (dk k (by omega) (by omega) (by omega)).trans (eN k hk)
      have d1 : g2 1 = g 1 := (dk 1 (by decide) (by decide) (by decide)).trans e1
      have d3 : g2 3 = upd (g 3) j v := (dk 3 (by decide) (by decide) (by decide)).trans e3
      have d4 : g2 4 = upd (g 4) j u := (dk 4 (by decide) (by decide) (by decide)).trans e4
      have d0 : g2 0 = upd (g 0) 10 (nI (C ||| 2 ^ j)) := (dk 0 (by decide) (by decide) (by decide)).trans e0
      have hm2 : MR (JF g j v u) g2 := fun k h1 h2 => by
        rw [← hg2, va_up_ne _ _ (by omega)]
        exact hmr k h1 h2
      obtain ⟨a1, a2, a3⟩ := off_put (g' := g2) hP hU hO hj (v := v) (u := u) (Or.inr ⟨ver_m1 hv, fun z => hvh (z.trans (hP j hj).1), by rw [d28]; exact pk_us, in_n (a := 1) (Or.inr rfl) hu⟩) d1 (dg 26 (by decide) (by decide) (by decide) (by decide)) d3 d4 d27 (fun q hq => by rw [d28]; exact pk_un hq) (dN 6 (by omega)) (dN 7 (by omega))
      have aN : IvN g2 nP nN := by
        unfold IvN
        rw [dN 9 (by omega), dN 10 (by omega), dN 11 (by omega), dN 12 (by omega), dN 13 (by omega), dg 31 (by decide) (by decide) (by decide) (by decide), dg 32 (by decide) (by decide) (by decide) (by decide), dg 33 (by decide) (by decide) (by decide) (by decide), dg 34 (by decide) (by decide) (by decide) (by decide), dg 35 (by decide) (by decide) (by decide) (by decide)]
        exact hN
      have ao : OfS g2 nP (C ||| 2 ^ j) := by
        unfold OfS
        rw [d3]
        exact jo
      have af : FitR g2 nN (C ||| 2 ^ j) := by
        unfold FitR
        rw [hm2.rd.brk]
        exact hf
      have a25 : ¬ g2 25 25 = 0 := by rw [d25 25 (by decide) (by decide) (by decide)]; exact hcut
      refine ⟨rfl, ?_⟩
      show IV g2 T n
      refine ⟨nP, nN, nT, nW, C ||| 2 ^ j, ?_, ⟨a1, aN, ?_, a2⟩, ⟨a3, ?_, ?_⟩, ⟨hS, d24, Or.inr ⟨by rw [d0]; exact pk_us, a25, ao, af, ?_⟩⟩, ?_, ?_⟩
      · unfold IvC
        rw [d0, dN 8 (by omega), dN 16 (by omega), dg 21 (by decide) (by decide) (by decide) (by decide), dg 24 (by decide) (by decide) (by decide) (by decide), d25 19 (by decide) (by decide) (by decide), d25 20 (by decide) (by decide) (by decide), d25 21 (by decide) (by decide) (by decide), d25 22 (by decide) (by decide) (by decide), d25 23 (by decide) (by decide) (by decide)]
        exact hC
      · unfold IvT
        rw [dN 17 (by omega), dg 36 (by decide) (by decide) (by decide) (by decide)]
        exact hT
      · unfold IvK
        rw [dN 6 (by omega), dN 7 (by omega), dg 29 (by decide) (by decide) (by decide) (by decide), dg 30 (by decide) (by decide) (by decide) (by decide)]
        exact hK
      · unfold IvW
        rw [dg 22 (by decide) (by decide) (by decide) (by decide), dg 23 (by decide) (by decide) (by decide) (by decide), dg 37 (by decide) (by decide) (by decide) (by decide), dg 38 (by decide) (by decide) (by decide) (by decide)]
        exact hW
      · refine rt_of (w := wTo (va_up (wTo (va_up (va_up g (2 + 1) (upd (g (2 + 1)) j v)) (2 + 2) (upd (g (2 + 2)) j u)) nN) 0 (upd (wTo (va_up (va_up g (2 + 1) (upd (g (2 + 1)) j v)) (2 + 2) (upd (g (2 + 2)) j u)) nN 0) 10 (nI (C ||| 2 ^ j)))) nN) a1 aN hP10 hN30 ao af a25 (fun k hk => ?_) ?_ ?_
        · have w1 : wA g2 k = wA (va_up (va_up g (2 + 1) (upd (g (2 + 1)) j v)) (2 + 2) (upd (g (2 + 2)) j u)) k := by
            unfold wA nH nO nHh nOh nHh nH hold
            rw [d1, d3, dN 9 (by omega), dN 10 (by omega), dN 11 (by omega), dN 12 (by omega), dN 13 (by omega)]
            rfl
          have w2 : wB g2 k = wB (va_up (va_up g (2 + 1) (upd (g (2 + 1)) j v)) (2 + 2) (upd (g (2 + 2)) j u)) k := by
            unfold wB nH nO nHh nOh nHh nH hold
            rw [d1, d3, dN 9 (by omega), dN 10 (by omega), dN 11 (by omega), dN 12 (by omega), dN 13 (by omega)]
            rfl
          rw [w1, w2]
          exact ⟨if_pos hk, if_pos hk⟩
        · rw [dk 19 (by decide) (by decide) (by decide), ← hg1]
          rfl
        · rw [dk 18 (by decide) (by decide) (by decide), ← hg1]
          rfl
      · unfold IvR
        rw [dg 39 (by decide) (by decide) (by decide) (by decide), dg 40 (by decide) (by decide) (by decide) (by decide), dg 41 (by decide) (by decide) (by decide) (by decide), dg 42 (by decide) (by decide) (by decide) (by decide), dg 43 (by decide) (by decide) (by decide) (by decide)]
        exact hR
      · rw [d1]
        exact hc
    · rw [if_neg q2]
      generalize hg1 : va_up (va_up (wTo (va_up (va_up g (2 + 1) (upd (g (2 + 1)) j v)) (2 + 2) (upd (g (2 + 2)) j u)) nN) (2 + 1) (upd (wTo (va_up (va_up g (2 + 1) (upd (g (2 + 1)) j v)) (2 + 2) (upd (g (2 + 2)) j u)) nN (2 + 1)) j (g 3 j))) (2 + 2) (upd (wTo (va_up (va_up g (2 + 1) (upd (g (2 + 1)) j v)) (2 + 2) (upd (g (2 + 2)) j u)) nN (2 + 2)) j (g 4 j)) = g1
      have e1 : EqV g g1 := by
        rw [← hg1]
        refine ⟨fun k h0 h1 h2 h3 h4 h5 => ?_, rfl, fun _ _ _ => rfl⟩
        by_cases z3 : k = 3
        · subst z3
          exact upd_bk (g 3) j v
        by_cases z4 : k = 4
        · subst z4
          exact upd_bk (g 4) j u
        rw [va_up_ne _ _ z4, va_up_ne _ _ z3, wTo_k h1 h2, va_up_ne _ _ z4, va_up_ne _ _ z3]
      have e2 := e1.tr (EqV.t0 g1)
      have hmr : MR (JF g j v u) (tryG (T0 g1) (nI j) v u) := fun k h1 h2 => by
        unfold tryG JF
        rw [cj]
        by_cases z8 : k = 28
        · subst z8
          show upd (T0 g1 28) j u = upd (g 28) j u
          rw [e2.at 28 (by decide)]
        by_cases z7 : k = 27
        · subst z7
          show upd (T0 g1 27) j v = upd (g 27) j v
          rw [e2.at 27 (by decide)]
        rw [va_up_ne _ _ z8, va_up_ne _ _ z7, va_up_ne _ _ (by omega), va_up_ne _ _ (by omega), va_up_ne _ _ z8, va_up_ne _ _ z7, va_up_ne _ _ (by omega), va_up_ne _ _ (by omega), e2.at k (by simp only [Bool.and_eq_true, Bool.not_eq_true', decide_eq_true_eq, decide_eq_false_iff_not]; omega)]
      have horM : orM (T0 g1) (nI j) = nI (C ||| 2 ^ j) := by
        rw [orM, e2.2.2 24 (by decide) (by decide), hX.2.1, shl1 j (by omega), nx_or]
      have hmay : mMay (T0 g1) (nI j) v u = mMay g (nI j) v u := by
        unfold mMay
        rw [e2.cut, e2.pt, e2.2.2 24 (by decide) (by decide), e2.at 26 (by decide)]
      unfold mFix
      rw [show ((0 : Int32), g1).2 = g1 from rfl, hmay, if_pos q1, horM, hmr.goes, if_neg q2]
      refine ⟨rfl, hI.iv (e2.tr ⟨fun k h0 h1 h2 h3 h4 h5 => ?_, rfl, fun i h1 h2 => ?_⟩)⟩
      · unfold untryG tryG
        rw [cj]
        dsimp only
        by_cases z8 : k = 28
        · subst z8
          exact upd_bk (T0 g1 28) j u
        by_cases z7 : k = 27
        · subst z7
          exact upd_bk (T0 g1 27) j v
        rw [va_up_ne _ _ z8, va_up_ne _ _ z7, va_up_ne _ _ z8, va_up_ne _ _ z7, va_up_ne _ _ h5, va_up_ne _ _ h5]
      · show upd (upd (T0 g1 25) 26 _) 27 _ i = _
        rw [pk_un (by omega), pk_un (by omega)]
  · rw [if_neg q1]
    unfold mFix
    rw [if_neg (by exact q1)]
    exact ⟨rfl, hI.iv (EqV.t0 g)⟩
theorem c_ord (h : Iv g T n nP nN nT nW C) : ∃ bo : Bool, OrdOK (T0 g) nN nP C bo ∧ (∀ i, dOrder g i = mOrder (T0 g) nN nP C bo i) ∧ (cutB g && !decide (g 18 1 = -1)) = bo := by
  obtain ⟨hC, ⟨hP, hN, hT, hU⟩, ⟨hO, hK, hW⟩, hX, hR, hc⟩ := h
  have hP10 := hC.1.2.2
  have hC10 := hX.1
  have hpc := popc_le C hC10
  have e := EqV.t0 g
  by_cases q1 : g 25 25 = 0
  · refine ⟨false, ⟨fun z => (by cases z), fun _ => Or.inl (by rw [e.cut]; exact q1)⟩, fun i => ?_, by rw [cut_off hX q1]; rfl⟩
    unfold dOrder mOrder
    rw [cut_off hX q1, if_neg (by decide), if_neg (by decide)]
  · obtain ⟨_, _, _, bo, h1, h2, h3⟩ := hX.on q1
    refine ⟨bo, (OrdOK_c (fun s => e.rd.brk nN s) e.cut).mpr h1, fun i => ?_, ?_⟩
    · unfold dOrder mOrder
      rw [cut_on hX q1, if_pos rfl]
      cases bo with
      | false =>
        rw [h3 rfl, if_neg (show ¬ (false = true) by decide)]
        by_cases q2 : i < 0
        · rw [if_pos q2]
        · rw [if_neg q2, if_pos (show (-1 : Int32) ≤ i from by
            rw [Int32.le_iff_toInt_le]
            rw [Int32.lt_iff_toInt_lt, show (0 : Int32).toInt = 0 from rfl] at q2
            rw [show (-1 : Int32).toInt = -1 from rfl]
            omega)]
      | true =>
        obtain ⟨h4, h5, h6⟩ := h2 rfl
        rw [if_pos rfl]
        have hr : ∀ f, rowL (T0 g) nN nP C 10 0 0 f = rowL g nN nP C 10 0 0 f := fun f => rowL_c (fun s => e.rd.brk nN s) 10 0 0 f
        obtain ⟨t1, _, t3⟩ := row_f (g := g) (nN := nN) (nP := nP) (C := C) 10 0 0 (T0 g 45) (fun _ => 0)
        have t2 : (rowT (T0 g) nN nP C).2 = popc C := by rw [rowT, hr, t1]; exact h5
        rw [t2, h4]
        by_cases q2 : i < 0
        · rw [if_pos q2, if_pos q2]
        · rw [if_neg q2, if_neg q2]
          by_cases q3 : nI (popc C) ≤ i
          · rw [if_pos q3, if_pos q3]
          · rw [if_neg q3, if_neg q3]
            obtain ⟨k, hk, rfl⟩ := nI_of q2
            have hk2 : k < popc C := nleK (by omega) hk q3
            rw [if_neg (show ¬ (10 : Int32) ≤ nI k from fun z => absurd (leK (a := 10) (b := k) (by decide) hk z) (by omega)), nI_clamp hk, h6 k hk2, rowT, hr]
            exact (t3 k (Or.inr ⟨Nat.zero_le _, by rw [t1]; show k < (rw0 g nN nP C).2; rw [h5]; exact hk2⟩)).symm
    · rw [cut_on hX q1]
      cases bo with
      | false => rw [h3 rfl]; rfl
      | true => rw [(h2 rfl).1, decide_eq_false (nI_ne_m1 (by omega))]; rfl
end INV4
