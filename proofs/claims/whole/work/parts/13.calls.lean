/-! ===== calls that only read; sets as numbers; the first of a row ===== -/
section CR
variable {E : VE} {y : MethodName} {bt : ByteArray} {nL : Nat} {rt : Option FieldType} {fr mc ms : Nat} {post : Option Value → va_W → Prop} {pc : Nat} {L : List (Option Value)} {st : List Value} {ws : va_W} {cl sl : Nat}
theorem V_rdV (q : Nat) {y' : MethodName} {bt' : ByteArray} {nL' : Nat} {rt' : Option FieldType} {fr' : Nat} {x : Int32} {As st0 : List Value} {ix ci b n : Nat} {fs : List Value} {T : u_T} {N : Nat}
    (hM : MW y' bt' nL' rt' n) (hl' : MV y.cls ix y') (hd : decode bt pc = .ok (.invokevirtual ix, 3)) (hC : Ct E y' bt' nL' rt' fr' 0 0 (.ref b :: As) ws (fun r w => r = some (.int x) ∧ w = ws)) (he : ws[q]? = some (b, .inr (ci, fs))) (hc : CL[ci]? = some (y'.cls, T, N))
    (hn : As.length = n) (hst : st0 = As.reverse ++ .ref b :: st) (hW : (st.map fun v => v.category).sum ≤ 8) (hfr : fr' + 1 ≤ fr) (hnL : nL' ≤ 21) (hcl : cl ≤ mc) (hsl : sl ≤ ms)
    (k : V E y bt nL rt fr mc ms post (pc + 3) L (.int x :: st) ws cl sl) : V E y bt nL rt fr mc ms post pc L st0 ws cl sl := by
  refine V_callV q hM hl' hd hC he hc hn hst hW hfr hnL hcl hsl ?_
  rintro _ _ ⟨rfl, rfl⟩
  exact k
theorem V_rdS {y' : MethodName} {bt' : ByteArray} {nL' : Nat} {rt' : Option FieldType} {fr' : Nat} {x : Int32} {As st0 : List Value} {ix n : Nat}
    (hM : MW y' bt' nL' rt' n) (hl' : MS y.cls ix y') (hd : decode bt pc = .ok (.invokestatic ix, 3)) (hC : Ct E y' bt' nL' rt' fr' 0 0 As ws (fun r w => r = some (.int x) ∧ w = ws))
    (hn : As.length = n) (hst : st0 = As.reverse ++ st) (hW : (st.map fun v => v.category).sum ≤ 8) (hfr : fr' + 1 ≤ fr) (hnL : nL' ≤ 21) (hcl : cl ≤ mc) (hsl : sl ≤ ms)
    (k : V E y bt nL rt fr mc ms post (pc + 3) L (.int x :: st) ws cl sl) : V E y bt nL rt fr mc ms post pc L st0 ws cl sl := by
  refine V_callS hM hl' hd hC hn hst hW hfr hnL hcl hsl ?_
  rintro _ _ ⟨rfl, rfl⟩
  exact k
end CR
theorem nx_and (a b : Nat) : nI a &&& nI b = nI (a &&& b) := by
  apply Int32.toBitVec_inj.1
  show BitVec.ofNat 32 a &&& BitVec.ofNat 32 b = BitVec.ofNat 32 (a &&& b)
  apply BitVec.eq_of_getLsbD_eq
  intro i hi
  simp [hi]
theorem nx_or (a b : Nat) : nI a ||| nI b = nI (a ||| b) := by
  apply Int32.toBitVec_inj.1
  show BitVec.ofNat 32 a ||| BitVec.ofNat 32 b = BitVec.ofNat 32 (a ||| b)
  apply BitVec.eq_of_getLsbD_eq
  intro i hi
  simp [hi]
theorem nx_xor (a b : Nat) : nI a ^^^ nI b = nI (a ^^^ b) := by
  apply Int32.toBitVec_inj.1
  show BitVec.ofNat 32 a ^^^ BitVec.ofNat 32 b = BitVec.ofNat 32 (a ^^^ b)
  apply BitVec.eq_of_getLsbD_eq
  intro i hi
  simp [hi]
theorem s_l : ∀ n, n < 32 → ((nI n &&& 31).toBitVec.smod 32).toNat = n := by decide +kernel
theorem shl1 : ∀ p, p < 31 → (1 : Int32) <<< (nI p &&& 31) = nI (2 ^ p) := by decide +kernel
theorem bitAt {S p : Nat} (hS : S < 2 ^ 31) (hp : p < 32) : (nI S >>> (nI p &&& 31)) &&& 1 = if S.testBit p then 1 else 0 := by
  rw [pk_shrN hS _ p (s_l p hp), pk_andN (n := S / 2 ^ p) (Nat.lt_of_le_of_lt (Nat.div_le_self _ _) (by omega)) 1 (by decide)]
  have e : S.testBit p = decide (S / 2 ^ p % 2 = 1) := by rw [Nat.testBit_eq_decide_div_mod_eq]
  rw [e]
  rcases Nat.mod_two_eq_zero_or_one (S / 2 ^ p) with h | h
  · rw [h, if_neg (by simp)]; exact nI_0
  · rw [h, if_pos (by simp)]; decide
theorem bitAt_ne {S p : Nat} (hS : S < 2 ^ 31) (hp : p < 32) (h : ¬ (nI S >>> (nI p &&& 31)) &&& 1 = 0) : S.testBit p = true := by
  rw [bitAt hS hp] at h
  cases hb : S.testBit p with
  | true => rfl
  | false => rw [hb] at h; exact absurd rfl h
theorem bitAt_eq {S p : Nat} (hS : S < 2 ^ 31) (hp : p < 32) (h : (nI S >>> (nI p &&& 31)) &&& 1 = 0) : S.testBit p = false := by
  rw [bitAt hS hp] at h
  cases hb : S.testBit p with
  | false => rfl
  | true => rw [hb] at h; exact absurd h (by decide)
theorem in_of {p : Int32} {n : Nat} (hn : n < 2 ^ 31) (h1 : ¬ p < 0) (h2 : ¬ nI n ≤ p) : vp_in p n := by
  rcases pk_ix p hn with h | h | ⟨j, hj, rfl⟩
  · exact absurd h h1
  · exact absurd h h2
  · exact vp_in_nI hj hn
/-- the first of k, k + 1 .. (n of them) with P; -1 -/
def fi (P : Nat → Bool) : Nat → Nat → Int32
  | 0, _ => -1
  | n + 1, k => if P k = true then nI k else fi P n (k + 1)
theorem fi_congr {P Q : Nat → Bool} : ∀ (n k : Nat), (∀ j, k ≤ j → j < k + n → P j = Q j) → fi P n k = fi Q n k
  | 0, _, _ => rfl
  | n + 1, k, h => by
    unfold fi
    rw [h k (Nat.le_refl _) (by omega), fi_congr n (k + 1) (fun j h1 h2 => h j (by omega) (by omega))]
theorem fi_none {P : Nat → Bool} : ∀ (n k : Nat), k + n < 2 ^ 31 → (fi P n k = -1 ↔ ∀ j, k ≤ j → j < k + n → P j = false)
  | 0, k, _ => ⟨fun _ j h1 h2 => by omega, fun _ => rfl⟩
  | n + 1, k, hk => by
    unfold fi
    by_cases hP : P k = true
    · rw [if_pos hP]
      refine ⟨fun h => ?_, fun h => ?_⟩
      · exact absurd (h ▸ nI_pos (n := k) (by omega)) (by decide)
      · rw [h k (Nat.le_refl _) (by omega)] at hP
        cases hP
    · rw [if_neg hP, fi_none n (k + 1) (by omega)]
      refine ⟨fun h j h1 h2 => ?_, fun h j h1 h2 => h j (by omega) (by omega)⟩
      by_cases e : j = k
      · subst e
        simpa using hP
      · exact h j (by omega) (by omega)
theorem fi_some {P : Nat → Bool} : ∀ (n k : Nat), fi P n k = -1 ∨ ∃ j, k ≤ j ∧ j < k + n ∧ P j = true ∧ fi P n k = nI j
  | 0, _ => Or.inl rfl
  | n + 1, k => by
    unfold fi
    by_cases hP : P k = true
    · exact Or.inr ⟨k, Nat.le_refl _, by omega, hP, by rw [if_pos hP]⟩
    · rw [if_neg hP]
      rcases fi_some n (k + 1) with h | ⟨j, h1, h2, h3, h4⟩
      · exact Or.inl h
      · exact Or.inr ⟨j, by omega, by omega, h3, h4⟩
theorem leK {a b : Nat} (ha : a < 2 ^ 31) (hb : b < 2 ^ 31) (h : nI a ≤ nI b) : a ≤ b := (nI_leI ha hb).mp h
theorem nleK {a b : Nat} (ha : a < 2 ^ 31) (hb : b < 2 ^ 31) (h : ¬ nI a ≤ nI b) : b < a := Nat.lt_of_not_le (fun z => h ((nI_leI ha hb).mpr z))
theorem ltK {a b : Nat} (ha : a < 2 ^ 31) (hb : b < 2 ^ 31) (h : nI a < nI b) : a < b := (nI_ltI ha hb).mp h
theorem nltK {a b : Nat} (ha : a < 2 ^ 31) (hb : b < 2 ^ 31) (h : ¬ nI a < nI b) : b ≤ a := Nat.le_of_not_lt (fun z => h ((nI_ltI ha hb).mpr z))
