/-! ===== the pure side: the greatest of many, in any order of looking ===== -/
def IsMx (ok : Nat → Bool) (B : Nat → Nat → Bool) (D : Nat → Prop) (b : Option Nat) : Prop := (∀ m, b = some m → D m ∧ ok m = true ∧ ∀ s, D s → ok s = true → s ≠ m → B m s = true) ∧ (b = none → ∀ s, D s → ok s = false)
def betO (B : Nat → Nat → Bool) (t : Nat) (b : Option Nat) : Bool := match b with
  | none => true
  | some m => B t m
/-- a strict order in which any two differ -/
def OrdB (B : Nat → Nat → Bool) (N : Nat) : Prop := (∀ a b c, a < N → b < N → c < N → B a b = true → B b c = true → B a c = true) ∧ (∀ a b, a < N → b < N → B a b = true → B b a = false) ∧ ∀ a b, a < N → b < N → a ≠ b → B a b = true ∨ B b a = true
theorem mx_step {ok : Nat → Bool} {B : Nat → Nat → Bool} {N : Nat} (hB : OrdB B N) {D D' : Nat → Prop} {b : Option Nat} {t : Nat} (hD : ∀ s, D' s → s < N) (h : IsMx ok B D b) (ht : ¬ D t) (hD' : ∀ s, D' s ↔ D s ∨ s = t) : IsMx ok B D' (if (ok t && betO B t b) = true then some t else b) := by
  have htN : t < N := hD t ((hD' t).mpr (Or.inr rfl))
  cases hok : ok t with
  | false =>
    rw [if_neg (by simp)]
    refine ⟨fun m e => ?_, fun e s hs => ?_⟩
    · obtain ⟨h1, h2, h3⟩ := h.1 m e
      refine ⟨(hD' m).mpr (Or.inl h1), h2, fun s hs ho hne => ?_⟩
      rcases (hD' s).mp hs with q | q
      · exact h3 s q ho hne
      · subst q
        rw [hok] at ho
        cases ho
    · rcases (hD' s).mp hs with q | q
      · exact h.2 e s q
      · subst q
        exact hok
  | true =>
    cases b with
    | none =>
      rw [if_pos (by simp [betO])]
      refine ⟨fun m e => ?_, fun e => by cases e⟩
      cases e
      refine ⟨(hD' t).mpr (Or.inr rfl), hok, fun s hs ho hne => ?_⟩
      rcases (hD' s).mp hs with q | q
      · rw [h.2 rfl s q] at ho
        cases ho
      · exact absurd q hne
    | some m =>
      obtain ⟨h1, h2, h3⟩ := h.1 m rfl
      have hmN : m < N := hD m ((hD' m).mpr (Or.inl h1))
      have hmt : t ≠ m := fun z => ht (z ▸ h1)
      cases hb : B t m with
      | true =>
        rw [if_pos (by simp [betO, hb])]
        refine ⟨fun x e => ?_, fun e => by cases e⟩
        cases e
        refine ⟨(hD' t).mpr (Or.inr rfl), hok, fun s hs ho hne => ?_⟩
        rcases (hD' s).mp hs with q | q
        · by_cases e : s = m
          · subst e
            exact hb
          · exact hB.1 t m s htN hmN (hD s hs) hb (h3 s q ho e)
        · exact absurd q hne
      | false =>
        rw [if_neg (by simp [betO, hb])]
        refine ⟨fun x e => ?_, fun e => by cases e⟩
        cases e
        refine ⟨(hD' m).mpr (Or.inl h1), h2, fun s hs ho hne => ?_⟩
        rcases (hD' s).mp hs with q | q
        · exact h3 s q ho hne
        · subst q
          rcases hB.2.2 m s hmN htN (fun z => hmt z.symm) with z | z
          · exact z
          · rw [hb] at z
            cases z
theorem mx_uniq {ok : Nat → Bool} {B : Nat → Nat → Bool} {N : Nat} (hB : OrdB B N) {D : Nat → Prop} (hD : ∀ s, D s → s < N) {b b' : Option Nat} (h : IsMx ok B D b) (h' : IsMx ok B D b') : b = b' := by
  cases b with
  | none =>
    cases b' with
    | none => rfl
    | some m =>
      obtain ⟨h1, h2, -⟩ := h'.1 m rfl
      rw [h.2 rfl m h1] at h2
      cases h2
  | some m =>
    obtain ⟨h1, h2, h3⟩ := h.1 m rfl
    cases b' with
    | none =>
      rw [h'.2 rfl m h1] at h2
      cases h2
    | some m' =>
      obtain ⟨k1, k2, k3⟩ := h'.1 m' rfl
      by_cases e : m = m'
      · rw [e]
      · have z := h3 m' k1 k2 (fun z => e z.symm)
        have z' := k3 m h1 h2 e
        rw [hB.2.1 m m' (hD m h1) (hD m' k1) z] at z'
        cases z'
