/-! ===== fields and a constructor of nest mates ===== -/
def nestW : List Cond := [Cond.fieldLinkNest "TrainDesk" 238 "TrainDesk$Needs" "size" "I" "TrainDesk", Cond.fieldLinkNest "TrainDesk" 240 "TrainDesk$Tests" "size" "I" "TrainDesk", Cond.methodLinkNest "TrainDesk" 46 yX0_init "TrainDesk", Cond.fieldLinkNest "TrainDesk" 220 "TrainDesk$Hunt" "least" "I" "TrainDesk", Cond.fieldLinkNest "TrainDesk" 223 "TrainDesk$Hunt" "spent" "I" "TrainDesk", Cond.fieldLinkNest "TrainDesk" 249 "TrainDesk$OneWays" "size" "I" "TrainDesk", Cond.fieldLinkNest "TrainDesk" 199 "TrainDesk$Train" "ahead" "[I" "TrainDesk", Cond.fieldLinkNest "TrainDesk" 206 "TrainDesk$Train" "behind" "[I" "TrainDesk", Cond.fieldLinkNest "TrainDesk" 193 "TrainDesk$Train" "load" "I" "TrainDesk", Cond.fieldLinkNest "TrainDesk" 209 "TrainDesk$Train" "isBack" "Z" "TrainDesk"]
theorem nestW_in : ∀ w ∈ nestW, w ∈ lw_tbl := by
  intro w hw
  simp only [nestW, List.mem_cons, List.not_mem_nil, or_false] at hw
  rcases hw with rfl | rfl | rfl | rfl | rfl | rfl | rfl | rfl | rfl | rfl
  · exact List.mem_of_getElem? (i := 107) (by decide +kernel)
  · exact List.mem_of_getElem? (i := 133) (by decide +kernel)
  · exact List.mem_of_getElem? (i := 154) (by decide +kernel)
  · exact List.mem_of_getElem? (i := 159) (by decide +kernel)
  · exact List.mem_of_getElem? (i := 161) (by decide +kernel)
  · exact List.mem_of_getElem? (i := 176) (by decide +kernel)
  · exact List.mem_of_getElem? (i := 473) (by decide +kernel)
  · exact List.mem_of_getElem? (i := 475) (by decide +kernel)
  · exact List.mem_of_getElem? (i := 477) (by decide +kernel)
  · exact List.mem_of_getElem? (i := 479) (by decide +kernel)
def NST (E : VE) : Prop := ∀ (A : Nat → Prop) (s : State), E.2.2.2 A s → ∀ w ∈ nestW, va_Nw w s
def FN (own : String) (ix ci k : Nat) : Prop := ∃ (C : String) (T : u_T) (N : Nat), CL[ci]? = some (C, T, N) ∧ k < N ∧ (∀ w ∈ u_ws C T N, w ∈ TB) ∧ Cond.fieldLinkNest own ix (T k).1 (T k).2.1 (T k).2.2.1 "TrainDesk" ∈ nestW
def FNP (own : String) (ix ci k : Nat) (ty : FieldType) : Prop := ∃ (C : String) (T : u_T) (N : Nat) (ty0 : Nat → FieldType), CL[ci]? = some (C, T, N) ∧ k < N ∧ (∀ w ∈ u_ws C T N, w ∈ TB) ∧ Cond.fieldLinkNest own ix (T k).1 (T k).2.1 (T k).2.2.1 "TrainDesk" ∈ nestW ∧
  (∀ j, j < N → parseFieldDescriptor (T j).2.2.1 = some (ty0 j)) ∧ (∀ a, a < N → ∀ b, b < N → a ≠ b → (T a).2.1 ≠ (T b).2.1) ∧ (T k).2.2.2 = false ∧ parseFieldDescriptor (T k).2.2.1 = some ty
section NS
variable {E : VE} {y : MethodName} {bt : ByteArray} {nL : Nat} {rt : Option FieldType} {fr mc ms : Nat} {post : Option Value → va_W → Prop} {pc : Nat} {L : List (Option Value)} {st : List Value} {ws : va_W} {cl sl : Nat}
theorem V_getN (q : Nat) {ix ci j a : Nat} {fs : List Value} {v : Value} (hE : NST E) (hF : FN y.cls ix ci j) (hd : decode bt pc = .ok (.getfield ix, 3)) (he : ws[q]? = some (a, .inr (ci, fs))) (hv : fs[j]? = some v) (k : V E y bt nL rt fr mc ms post (pc + 3) L (v :: st) ws cl sl) : V E y bt nL rt fr mc ms post pc L (.ref a :: st) ws cl sl := by
  intro p e s m args below meth c H locs ls A C hl hP hD hS
  obtain ⟨C9, T9, N9, hc, hk, hin, hlk⟩ := hF
  exact va_getN C.1 C.2.1 C.2.2.2.2.2.1 hin C.2.2.2.2.1 C.2.2.2.2.2.2.2.2.1 hP q he hc j hk (va_Nw.use rfl (hE A s C.2.2.2.2.2.2.2.2.2.2.2 _ hlk)) (fun _ h9 => h9) hv hd (k p e s m args below meth c H locs ls A C hl hP hD hS)
theorem V_putN (q : Nat) {ix ci j a : Nat} {fs : List Value} {v : Value} {ty : FieldType} (hE : NST E) (hF : FNP y.cls ix ci j ty) (hd : decode bt pc = .ok (.putfield ix, 3)) (he : ws[q]? = some (a, .inr (ci, fs))) (hn : narrow ty v = v) (hf : fits ty v = true) (hj : j < fs.length) (k : V E y bt nL rt fr mc ms post (pc + 3) L st (ws.set q (a, .inr (ci, fs.set j v))) cl sl) : V E y bt nL rt fr mc ms post pc L (v :: .ref a :: st) ws cl sl := by
  intro p e s m args below meth c H locs ls A C hl hP hD hS
  obtain ⟨C9, T9, N9, ty0, hc, hk, hin, hlk, hty, hnm, hfin, hpd⟩ := hF
  exact va_putN C.1 C.2.1 C.2.2.2.2.2.1 hin ty0 hty hnm C.2.2.2.2.1 C.2.2.2.2.2.2.2.2.1 hP hD hS q he hc j hk (va_Nw.use rfl (hE A s C.2.2.2.2.2.2.2.2.2.2.2 _ hlk)) (fun _ h9 => h9) hfin hpd hn hf hj hd (fun H locs hP hD hS => k p e s m args below meth c H locs ls A C hl hP hD hS)
theorem V_callIN {y' : MethodName} {bt' : ByteArray} {nL' : Nat} {fr' mc' ms' : Nat} {post' : Option Value → va_W → Prop} {As st0 : List Value} {ix b n : Nat}
    (hE : NST E) (hM : MW y' bt' nL' none n) (hlk : Cond.methodLinkNest y.cls ix y' "TrainDesk" ∈ nestW) (hin : Cond.instanceMethod y' ∈ TB) (hy1 : y'.name = "<init>") (hd : decode bt pc = .ok (.invokespecial ix, 3)) (hC : Ct E y' bt' nL' none fr' mc' ms' (.ref b :: As) ws post')
    (hn : As.length = n) (hst : st0 = As.reverse ++ .ref b :: st) (hW : (st.map fun v => v.category).sum ≤ 8) (hfr : fr' + 1 ≤ fr) (hnL : nL' ≤ 21) (hcl : cl + mc' ≤ mc) (hsl : sl + ms' ≤ ms)
    (k : ∀ (v : Option Value) (ws' : va_W), post' v ws' → V E y bt nL rt fr mc ms post (pc + 3) L (v.toList ++ st) ws' (cl + mc') (sl + ms')) : V E y bt nL rt fr mc ms post pc L st0 ws cl sl := by
  intro p e s m args below meth c H locs ls A C hl hP hD hS
  have hts := C.2.2.2.2.2.1
  refine V_run (post' := post') (a := (Value.ref b :: As).toArray) (y' := y') C hl hD hS ?_ k
  refine va_runIN (bytes := bt') (maxL := nL') (n := n) ⟨C.1, C.2.1, C.2.2.2.1, C.2.2.2.2.1, hts⟩ (hC C.2.2.2.2.2.2.2.2.2.2.1 H.size) ⟨va_cnB n hts (gUni0 hM.1) rfl rfl rfl (hE A s C.2.2.2.2.2.2.2.2.2.2.2 _ hlk) (hts _ hM.2.1) hM.2.2.1 ⟨hfr, ?_⟩, hy1, hts _ hin⟩ ⟨Pc_blind C.2.2.2.2.2.2.2.2.2.2.1, Pc_start C hP hD hS⟩ rfl hn hl.1.1 hst ?_ hd ⟨hcl, hsl⟩
  · show 8 + (nL' + 11) + 40 * fr' ≤ 40 * fr
    omega
  · exact lv_room hW
end NS
theorem fn_X7_238 : FN RX7 238 1 7 := ⟨RX1, TX1, 8, rfl, by decide, ui_X1, List.mem_of_getElem? (i := 0) rfl⟩
theorem fnp_X7_238 : FNP RX7 238 1 7 (.int) := ⟨RX1, TX1, 8, tyX1, rfl, by decide, ui_X1, List.mem_of_getElem? (i := 0) rfl, tyX1_ok, nmX1, rfl, by decide +kernel⟩
theorem fn_X7_240 : FN RX7 240 5 1 := ⟨RX5, TX5, 2, rfl, by decide, ui_X5, List.mem_of_getElem? (i := 1) rfl⟩
theorem fnp_X7_240 : FNP RX7 240 5 1 (.int) := ⟨RX5, TX5, 2, tyX5, rfl, by decide, ui_X5, List.mem_of_getElem? (i := 1) rfl, tyX5_ok, nmX5, rfl, by decide +kernel⟩
theorem fn_X7_220 : FN RX7 220 0 0 := ⟨RX0, TX0, 2, rfl, by decide, ui_X0, List.mem_of_getElem? (i := 3) rfl⟩
theorem fnp_X7_220 : FNP RX7 220 0 0 (.int) := ⟨RX0, TX0, 2, tyX0, rfl, by decide, ui_X0, List.mem_of_getElem? (i := 3) rfl, tyX0_ok, nmX0, rfl, by decide +kernel⟩
theorem fn_X7_223 : FN RX7 223 0 1 := ⟨RX0, TX0, 2, rfl, by decide, ui_X0, List.mem_of_getElem? (i := 4) rfl⟩
theorem fnp_X7_223 : FNP RX7 223 0 1 (.int) := ⟨RX0, TX0, 2, tyX0, rfl, by decide, ui_X0, List.mem_of_getElem? (i := 4) rfl, tyX0_ok, nmX0, rfl, by decide +kernel⟩
theorem fn_X7_249 : FN RX7 249 3 2 := ⟨RX3, TX3, 3, rfl, by decide, ui_X3, List.mem_of_getElem? (i := 5) rfl⟩
theorem fnp_X7_249 : FNP RX7 249 3 2 (.int) := ⟨RX3, TX3, 3, tyX3, rfl, by decide, ui_X3, List.mem_of_getElem? (i := 5) rfl, tyX3_ok, nmX3, rfl, by decide +kernel⟩
theorem fn_X7_199 : FN RX7 199 6 0 := ⟨RX6, TX6, 4, rfl, by decide, ui_X6, List.mem_of_getElem? (i := 6) rfl⟩
theorem fn_X7_206 : FN RX7 206 6 1 := ⟨RX6, TX6, 4, rfl, by decide, ui_X6, List.mem_of_getElem? (i := 7) rfl⟩
theorem fn_X7_193 : FN RX7 193 6 2 := ⟨RX6, TX6, 4, rfl, by decide, ui_X6, List.mem_of_getElem? (i := 8) rfl⟩
theorem fn_X7_209 : FN RX7 209 6 3 := ⟨RX6, TX6, 4, rfl, by decide, ui_X6, List.mem_of_getElem? (i := 9) rfl⟩
theorem fnp_X7_209 : FNP RX7 209 6 3 (.boolean) := ⟨RX6, TX6, 4, tyX6, rfl, by decide, ui_X6, List.mem_of_getElem? (i := 9) rfl, tyX6_ok, nmX6, rfl, by decide +kernel⟩
theorem mn_X7_46 : Cond.methodLinkNest RX7 46 yX0_init "TrainDesk" ∈ nestW := List.mem_of_getElem? (i := 2) rfl
theorem wd_hi : Cond.instanceMethod yX0_init ∈ TB := TB_of 155 rfl rfl
