/-! ===== the law's own rules: the script, a long, room ===== -/
/-- the script lies at b, and no method writes there -/
def SC (E : VE) (b len : Nat) (xs : Nat → Int32) : Prop := ∀ (A : Nat → Prop) (s : State), E.2.2.2 A s → va_X b len xs s s.heap ∧ b < s.heap.size ∧ ¬ A b
section LR
variable {E : VE} {y : MethodName} {bt : ByteArray} {nL : Nat} {rt : Option FieldType} {fr mc ms : Nat} {post : Option Value → va_W → Prop} {pc : Nat} {L : List (Option Value)} {st : List Value} {ws : va_W} {cl sl : Nat}
theorem V_sld {b len : Nat} {xs : Nat → Int32} (hE : SC E b len xs) {x : Int32} (j : Nat) (hx : x = nI j) (hj : j < len) (hlen : len < 2 ^ 31) (hd : decode bt pc = .ok (.iaload, 1)) (k : V E y bt nL rt fr mc ms post (pc + 1) L (.int (xs j) :: st) ws cl sl) : V E y bt nL rt fr mc ms post pc L (.int x :: .ref b :: st) ws cl sl := by
  intro p e s m args below meth c H locs ls A C hl hP hD hS
  obtain ⟨h1, h2, h3⟩ := hE A s C.2.2.2.2.2.2.2.2.2.2.2
  subst hx
  refine va_sld C.1 C.2.1 h1 h2 h3 hS (vp_in_nI hj hlen) hd ?_
  rw [nI_clamp (by omega)]
  exact k p e s m args below meth c H locs ls A C hl hP hD hS
theorem V_slen {b len : Nat} {xs : Nat → Int32} (hE : SC E b len xs) (hd : decode bt pc = .ok (.arraylength, 1)) (k : V E y bt nL rt fr mc ms post (pc + 1) L (.int (nI len) :: st) ws cl sl) : V E y bt nL rt fr mc ms post pc L (.ref b :: st) ws cl sl := by
  intro p e s m args below meth c H locs ls A C hl hP hD hS
  obtain ⟨h1, h2, h3⟩ := hE A s C.2.2.2.2.2.2.2.2.2.2.2
  exact va_slen C.1 C.2.1 h1 h2 h3 hS hd (k p e s m args below meth c H locs ls A C hl hP hD hS)
theorem V_lald (q : Nat) {a n : Nat} {f : Nat → Int64} {i : Int32} (hd : decode bt pc = .ok (.laload, 1)) (he : ws[q]? = some (a, .inl (cJ E, n, .inr (.inl f)))) (hin : vp_in i n) (k : V E y bt nL rt fr mc ms post (pc + 1) L (.long (f i.toNatClampNeg) :: st) ws cl sl) : V E y bt nL rt fr mc ms post pc L (.int i :: .ref a :: st) ws cl sl := by
  intro p e s m args below meth c H locs ls A C hl hP hD hS
  exact va_lald C.1 C.2.1 C.2.2.2.2.2.2.2.2.1 hP q 2 he rfl hin hd (k p e s m args below meth c H locs ls A C hl hP hD hS)
theorem V_lcmpE {x z : Int64} (hxz : x = z) (hd : decode bt pc = .ok (.lcmp, 1)) (k : V E y bt nL rt fr mc ms post (pc + 1) L (.int 0 :: st) ws cl sl) : V E y bt nL rt fr mc ms post pc L (.long z :: .long x :: st) ws cl sl := by
  subst hxz
  intro p e s m args below meth c H locs ls A C hl hP hD hS T hT X
  obtain ⟨t, a, b⟩ := k p e s m args below meth c H locs ls A C hl hP hD hS T hT X
  refine ⟨t, ?_, b⟩
  have hex := C.1
  have hb := C.2.1
  jvm_step X.here [X.here.top, hex, hb, hd]
  exact a
theorem V_widen {cl' sl' : Nat} (h1 : cl ≤ cl') (h2 : sl ≤ sl') (k : V E y bt nL rt fr mc ms post pc L st ws cl' sl') : V E y bt nL rt fr mc ms post pc L st ws cl sl := by
  intro p e s m args below meth c H locs ls A C hl hP hD hS
  exact W.widen h1 h2 (k p e s m args below meth c H locs ls A C hl hP hD hS)
end LR
