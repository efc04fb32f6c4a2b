/-! ===== rows by a number that is counted ===== -/
section IX
variable {E : VE} {ad : Nat → Nat} {el : Nat} {g : Nat → Nat → Int32} {w0 ws : va_W}
variable {y : MethodName} {bt : ByteArray} {nL : Nat} {rt : Option FieldType} {fr mc ms : Nat} {post : Option Value → va_W → Prop} {pc : Nat} {L : List (Option Value)} {st : List Value} {cl sl : Nat}
theorem V_ialdN (q : Nat) {a n j : Nat} {f : Nat → Int32} (hd : decode bt pc = .ok (.iaload, 1)) (he : ws[q]? = some (a, .inl (cI E, n, .inl f))) (hj : j < n) (hn : n < 2 ^ 31) (k : V E y bt nL rt fr mc ms post (pc + 1) L (.int (f j) :: st) ws cl sl) : V E y bt nL rt fr mc ms post pc L (.int (nI j) :: .ref a :: st) ws cl sl := by
  refine V_iald q hd he (vp_in_nI hj hn) ?_
  rw [nI_clamp (by omega)]
  exact k
theorem V_zaldN (q : Nat) {a n j : Nat} {f : Nat → Int32} (hd : decode bt pc = .ok (.baload, 1)) (he : ws[q]? = some (a, .inl (cZ E, n, .inl f))) (hj : j < n) (hn : n < 2 ^ 31) (k : V E y bt nL rt fr mc ms post (pc + 1) L (.int (f j) :: st) ws cl sl) : V E y bt nL rt fr mc ms post pc L (.int (nI j) :: .ref a :: st) ws cl sl := by
  refine V_zald q hd he (vp_in_nI hj hn) ?_
  rw [nI_clamp (by omega)]
  exact k
theorem W_iastN (k : Nat) {n j : Nat} {x : Int32} (hw : WF E ad el g w0 ws) (hk : k < 46) (hc : ∀ r, cellOf E ad el k r = .inl (cI E, n, .inl r)) (hd : decode bt pc = .ok (.iastore, 1)) (hj : j < n) (hn : n < 2 ^ 31)
    (kk : ∀ ws', WF E ad el (va_up g k (upd (g k) j x)) w0 ws' → V E y bt nL rt fr mc ms post (pc + 1) L st ws' cl sl) : V E y bt nL rt fr mc ms post pc L (.int x :: .int (nI j) :: .ref (ad k) :: st) ws cl sl := by
  refine W_iast k hw hk hc hd (vp_in_nI hj hn) ?_
  rw [nI_clamp (by omega)]
  exact kk
theorem W_zastN (k : Nat) {n j : Nat} {x : Int32} (hw : WF E ad el g w0 ws) (hk : k < 46) (hc : ∀ r, cellOf E ad el k r = .inl (cZ E, n, .inl r)) (hd : decode bt pc = .ok (.bastore, 1)) (hj : j < n) (hn : n < 2 ^ 31)
    (kk : ∀ ws', WF E ad el (va_up g k (upd (g k) j (vp_nar .boolean x))) w0 ws' → V E y bt nL rt fr mc ms post (pc + 1) L st ws' cl sl) : V E y bt nL rt fr mc ms post pc L (.int x :: .int (nI j) :: .ref (ad k) :: st) ws cl sl := by
  refine W_zast k hw hk hc hd (vp_in_nI hj hn) ?_
  rw [nI_clamp (by omega)]
  exact kk
end IX
/-- a truth as a number -/
def bI (x : Bool) : Int32 := if x = true then 1 else 0
theorem bI_or (x : Bool) : bI x = 0 ∨ bI x = 1 := by cases x <;> decide
theorem bI_0 {x : Bool} (h : bI x = 0) : x = false := by cases x with
  | false => rfl
  | true => exact absurd h (by decide)
theorem bI_1 {x : Bool} (h : ¬ bI x = 0) : x = true := by cases x with
  | true => rfl
  | false => exact absurd rfl h
theorem bI_inj {x y : Bool} (h : bI x = bI y) : x = y := by cases x <;> cases y <;> first | rfl | exact absurd h (by decide)
theorem bI_ne {x y : Bool} (h : ¬ bI x = bI y) : ¬ x = y := fun e => h (by rw [e])
theorem upd_upd (f : Nat → Int32) (k : Nat) (a b : Int32) : upd (upd f k a) k b = upd f k b := by
  funext j
  unfold upd
  by_cases h : j = k <;> simp [h]
theorem va_up_up {α : Type} (f : Nat → α) (k : Nat) (a b : α) : va_up (va_up f k a) k b = va_up f k b := by
  funext j
  unfold va_up
  by_cases h : j = k <;> simp [h]
theorem va_up_sw {α : Type} (f : Nat → α) {k j : Nat} (h : k ≠ j) (a b : α) : va_up (va_up f k a) j b = va_up (va_up f j b) k a := by
  funext i
  unfold va_up
  by_cases h1 : i = k
  · by_cases h2 : i = j
    · exact absurd (h1.symm.trans h2) h
    · simp [h1, h]
  · by_cases h2 : i = j
    · simp [h2, Ne.symm h]
    · simp [h1, h2]
theorem va_up_id {α : Type} (f : Nat → α) (k : Nat) : va_up f k (f k) = f := by
  funext i
  unfold va_up
  by_cases h : i = k <;> simp [h]
