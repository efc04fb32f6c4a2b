/-! ===== the pure side: the desk's greatest ===== -/
theorem IsMx.ext {ok : Nat → Bool} {B : Nat → Nat → Bool} {D D' : Nat → Prop} {b : Option Nat} (h : IsMx ok B D b) (h1 : ∀ s, D s → D' s) (h2 : ∀ s, D' s → ¬ D s → ok s = false) : IsMx ok B D' b := by
  refine ⟨fun m e => ?_, fun e s hs => ?_⟩
  · obtain ⟨k1, k2, k3⟩ := h.1 m e
    refine ⟨h1 m k1, k2, fun s hs ho hne => ?_⟩
    by_cases q : D s
    · exact k3 s q ho hne
    · rw [h2 s hs q] at ho
      cases ho
  · by_cases q : D s
    · exact h.2 e s q
    · exact h2 s hs q
theorem sum_n {f : Nat → Int32} {S : Nat} : ∀ k : Nat, (∀ p, p < k → S.testBit p = true → ∃ u : Nat, u ≤ 1000 ∧ f p = nI u) → ∃ n : Nat, n ≤ 1000 * k ∧ sumI f S k = nI n
  | 0, _ => ⟨0, Nat.le_refl _, rfl⟩
  | k + 1, h => by
    obtain ⟨n, hn, e⟩ := sum_n k (fun p hp => h p (by omega))
    unfold sumI
    by_cases q : S.testBit k = true
    · obtain ⟨u, hu, eu⟩ := h k (by omega) q
      exact ⟨n + u, by omega, by rw [if_pos q, e, eu, nI_add]⟩
    · exact ⟨n, by omega, by rw [if_neg q, e]⟩
abbrev vD (g : Nat → Nat → Int32) (s : Nat) : Int32 := sumI (g 4) s 10
def okD (g : Nat → Nat → Int32) (nN nT M U s : Nat) : Bool := decide (dif s M = 0) && (decide (s &&& U = U) && goesB g nN nT (nI s))
/-- the worths of M's parts -/
def WoS (g : Nat → Nat → Int32) (M : Nat) : Prop := ∀ p, M.testBit p = true → ∃ u : Nat, u ≤ 1000 ∧ g 4 p = nI u
theorem dif_sub {s M p : Nat} (h : dif s M = 0) (hp : s.testBit p = true) : M.testBit p = true := by
  have := congrArg (fun x => Nat.testBit x p) h
  simp only [dif_bit, Nat.zero_testBit, hp, Bool.true_and] at this
  cases hM : M.testBit p
  · rw [hM] at this
    cases this
  · rfl
theorem vD_n {g : Nat → Nat → Int32} {s M : Nat} (hW : WoS g M) (h : dif s M = 0) : ∃ n : Nat, n ≤ 10000 ∧ vD g s = nI n := sum_n 10 (fun p _ hp => hW p (dif_sub h hp))
def bwI (g : Nat → Nat → Int32) (b : Option Nat) (w : Int32) : Prop := (b = none → w = -1) ∧ ∀ m, b = some m → m < 1024 ∧ w = vD g m
theorem candB_eq {g : Nat → Nat → Int32} {nN nT M U s : Nat} {b : Option Nat} {w : Int32} (hW : WoS g M) (hs : s < 1024) (hb : bwI g b w) : candB g nN nT M U s b w = (okD g nN nT M U s && betO (bwB (vD g)) s b) := by
  unfold candB okD
  by_cases h : dif s M = 0
  · rw [decide_eq_true h, Bool.true_and, Bool.true_and]
    cases b with
    | none =>
      obtain ⟨n, hn, e⟩ := vD_n hW h
      rw [hb.1 rfl, show sumI (g 4) s 10 = nI n from e, decide_eq_true (show (-1 : Int32) < nI n from by
        rw [Int32.lt_iff_toInt_lt]
        have := nI_pos (show n < 2 ^ 31 by omega)
        rw [Int32.lt_iff_toInt_lt] at this
        have z : (0 : Int32).toInt = 0 := by decide
        have z1 : (-1 : Int32).toInt = -1 := by decide
        omega)]
      simp [betO]
    | some m =>
      obtain ⟨hm, e⟩ := hb.2 m rfl
      rw [show sI (some m) = nI m from rfl, lowerB_N hs hm, e]
      show _ = (_ && bwB (vD g) s m)
      unfold bwB
      cases decide (s &&& U = U) <;> cases goesB g nN nT (nI s) <;> simp
  · rw [decide_eq_false h]
    rfl
theorem grL_mx {g : Nat → Nat → Int32} {nN nT M U : Nat} (hW : WoS g M) (hM : M < 1024) : ∀ (k : Nat) (b : Option Nat) (w : Int32), k ≤ M + 1 → bwI g b w → IsMx (okD g nN nT M U) (bwB (vD g)) (fun s => k ≤ s ∧ s < M + 1) b → IsMx (okD g nN nT M U) (bwB (vD g)) (fun s => s < M + 1) (grL g nN nT M U k b w)
  | 0, b, w, _, _, h => h.ext (fun s hs => hs.2) (fun s hs hn => absurd ⟨Nat.zero_le _, hs⟩ hn)
  | k + 1, b, w, hk, hb, h => by
    unfold grL
    by_cases q : k < U
    · rw [if_pos q]
      refine h.ext (fun s hs => hs.2) (fun s hs hn => ?_)
      have hsk : s ≤ k := Nat.le_of_not_lt (fun z => hn ⟨z, hs⟩)
      have : ¬ s &&& U = U := fun z => by
        have := Nat.and_le_left (n := s) (m := U)
        rw [z] at this
        omega
      unfold okD
      rw [decide_eq_false this, Bool.false_and, Bool.and_false]
    · rw [if_neg q, candB_eq hW (by omega) hb]
      have hst := mx_step (bwB_ord (vD g)) (D' := fun s => k ≤ s ∧ s < M + 1) (t := k) (fun s hs => by omega) h (fun z => by omega) (fun s => by omega)
      by_cases c : (okD g nN nT M U k && betO (bwB (vD g)) k b) = true
      · rw [if_pos c] at hst ⊢
        exact grL_mx hW hM k _ _ (by omega) ⟨fun e => (by cases e), fun m e => (by cases e; exact ⟨by omega, rfl⟩)⟩ hst
      · rw [if_neg c] at hst ⊢
        exact grL_mx hW hM k _ _ (by omega) hb hst
theorem grt_mx {g : Nat → Nat → Int32} {nN nT M U : Nat} (hW : WoS g M) (hM : M < 1024) : IsMx (okD g nN nT M U) (bwB (vD g)) (fun s => s < M + 1) (grt g nN nT M U) := by
  unfold grt
  exact grL_mx hW hM (M + 1) none (-1) (Nat.le_refl _) ⟨fun _ => rfl, fun m e => (by cases e)⟩ ⟨fun m e => by (cases e), fun _ s hs => by omega⟩
