/-! ===== the pure side: of two sets the one with the lowest part that only one has ===== -/
def loN : Nat → Nat → Nat → Bool
  | 0, _, _ => false
  | k + 1, a, b => if a % 2 = b % 2 then loN k (a / 2) (b / 2) else decide (a % 2 = 1)
def lwN : Nat → Nat → Nat
  | 0, _ => 0
  | k + 1, x => if x % 2 = 1 then 1 else 2 * lwN k (x / 2)
set_option maxRecDepth 100000 in
theorem lowI_I : ∀ x, x < 1024 → lowI (nI x) = nI (lwN 10 x) := by decide +kernel
theorem lo_conn : ∀ (k a b : Nat), (a &&& lwN k (a ^^^ b) = 0) ↔ loN k a b = false
  | 0, a, b => by
    unfold lwN loN
    rw [Nat.and_zero]
    exact ⟨fun _ => rfl, fun _ => rfl⟩
  | k + 1, a, b => by
    unfold lwN loN
    by_cases h : a % 2 = b % 2
    · have hx : ¬ (a ^^^ b) % 2 = 1 := by
        rw [Nat.xor_mod_two_eq_one]
        intro z
        exact z (by rw [h])
      rw [if_neg hx, if_pos h, Nat.xor_div_two, ← lo_conn k]
      have h1 : (a &&& 2 * lwN k (a / 2 ^^^ b / 2)) / 2 = a / 2 &&& lwN k (a / 2 ^^^ b / 2) := by rw [Nat.and_div_two, Nat.mul_div_cancel_left _ (by decide)]
      have h2 : ¬ (a &&& 2 * lwN k (a / 2 ^^^ b / 2)) % 2 = 1 := by
        rw [Nat.and_mod_two_eq_one]
        intro z
        have := z.2
        omega
      omega
    · have hx : (a ^^^ b) % 2 = 1 := by
        rw [Nat.xor_mod_two_eq_one]
        intro z
        omega
      rw [if_pos hx, if_neg h, Nat.and_one_is_mod, decide_eq_false_iff_not]
      omega
theorem loN_as : ∀ (k a b : Nat), loN k a b = true → loN k b a = false
  | 0, _, _, _ => rfl
  | k + 1, a, b, h => by
    unfold loN at h ⊢
    by_cases e : a % 2 = b % 2
    · rw [if_pos e] at h
      rw [if_pos e.symm]
      exact loN_as k _ _ h
    · rw [if_neg e, decide_eq_true_iff] at h
      rw [if_neg (fun z => e z.symm), decide_eq_false_iff_not]
      omega
theorem loN_tr : ∀ (k a b c : Nat), loN k a b = true → loN k b c = true → loN k a c = true
  | 0, _, _, _, h, _ => by cases h
  | k + 1, a, b, c, h, h' => by
    unfold loN at h h' ⊢
    by_cases e : a % 2 = b % 2
    · rw [if_pos e] at h
      by_cases e' : b % 2 = c % 2
      · rw [if_pos e'] at h'
        rw [if_pos (e.trans e')]
        exact loN_tr k _ _ _ h h'
      · rw [if_neg e', decide_eq_true_iff] at h'
        rw [if_neg (fun z => e' (e.symm.trans z)), decide_eq_true_iff]
        omega
    · rw [if_neg e, decide_eq_true_iff] at h
      by_cases e' : b % 2 = c % 2
      · rw [if_neg (fun z => e (z.trans e'.symm)), decide_eq_true_iff]
        exact h
      · rw [if_neg e', decide_eq_true_iff] at h'
        omega
theorem loN_to : ∀ (k a b : Nat), a < 2 ^ k → b < 2 ^ k → a ≠ b → loN k a b = true ∨ loN k b a = true
  | 0, a, b, ha, hb, h => by
    have : (2 : Nat) ^ 0 = 1 := rfl
    omega
  | k + 1, a, b, ha, hb, h => by
    have h2 : (2 : Nat) ^ (k + 1) = 2 * 2 ^ k := by rw [Nat.pow_succ, Nat.mul_comm]
    unfold loN
    by_cases e : a % 2 = b % 2
    · rw [if_pos e, if_pos e.symm]
      exact loN_to k _ _ (by omega) (by omega) (by omega)
    · rw [if_neg e, if_neg (fun z => e z.symm), decide_eq_true_iff, decide_eq_true_iff]
      omega
theorem lowerB_N {a b : Nat} (ha : a < 1024) (hb : b < 1024) : lowerB (nI a) (nI b) = loN 10 a b := by
  have hx : a ^^^ b < 1024 := Nat.xor_lt_two_pow (n := 10) ha hb
  have hl : a &&& lwN 10 (a ^^^ b) < 1024 := Nat.lt_of_le_of_lt Nat.and_le_left ha
  have h1 : (nI (a &&& lwN 10 (a ^^^ b)) = 0) = (a &&& lwN 10 (a ^^^ b) = 0) := propext (show nI (a &&& lwN 10 (a ^^^ b)) = nI 0 ↔ _ from nI_eq (by omega) (by decide))
  rw [lowerB, nx_xor, lowI_I _ hx, nx_and]
  simp only [h1, lo_conn]
  cases loN 10 a b <;> rfl
/-- better: more worth, or as much and the lowest part that only one has -/
def bwB (v : Nat → Int32) (s b : Nat) : Bool := decide (v b < v s) || (decide (v s = v b) && loN 10 s b)
theorem bwB_iff {v : Nat → Int32} {s b : Nat} : bwB v s b = true ↔ (v b).toInt < (v s).toInt ∨ ((v s) = (v b) ∧ loN 10 s b = true) := by
  unfold bwB
  rw [Bool.or_eq_true, Bool.and_eq_true, decide_eq_true_iff, decide_eq_true_iff, Int32.lt_iff_toInt_lt]
theorem bwB_ord (v : Nat → Int32) : OrdB (bwB v) 1024 := by
  refine ⟨fun a b c ha hb hc h1 h2 => ?_, fun a b ha hb h => ?_, fun a b ha hb h => ?_⟩
  · rw [bwB_iff] at h1 h2 ⊢
    rcases h1 with h1 | ⟨h1, k1⟩
    · rcases h2 with h2 | ⟨h2, k2⟩
      · exact Or.inl (by omega)
      · exact Or.inl (by rw [← h2]; exact h1)
    · rcases h2 with h2 | ⟨h2, k2⟩
      · exact Or.inl (by rw [h1]; exact h2)
      · exact Or.inr ⟨h1.trans h2, loN_tr 10 a b c k1 k2⟩
  · rw [bwB_iff] at h
    rw [Bool.eq_false_iff]
    intro z
    rw [bwB_iff] at z
    rcases h with h | ⟨h, k⟩
    · rcases z with z | ⟨z, k'⟩
      · omega
      · rw [z] at h
        omega
    · rcases z with z | ⟨z, k'⟩
      · rw [h] at z
        omega
      · rw [loN_as 10 a b k] at k'
        cases k'
  · rw [bwB_iff, bwB_iff]
    by_cases e : v a = v b
    · rcases loN_to 10 a b ha hb h with z | z
      · exact Or.inl (Or.inr ⟨e, z⟩)
      · exact Or.inr (Or.inr ⟨e.symm, z⟩)
    · have e2 : ¬ (v a).toInt = (v b).toInt := fun z => e (Int32.toInt_inj.mp z)
      by_cases q : (v b).toInt < (v a).toInt
      · exact Or.inl (Or.inl q)
      · exact Or.inr (Or.inl (by omega))
