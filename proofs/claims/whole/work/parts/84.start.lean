/-! THE CLAIM OUT OF ONE WALK OF THE LAW'S BODY. Your part is whole_start (and what it stands on); all else here is the same for every law, but numbers. -/
def R_law : String := "TrainDeskLaw"
def lw_P (b : Addr) (xs : List Int32) (args : Array Value) (s : State) : Prop := args = #[.ref b] ∧ s.IntsAt b xs ∧ xs.length ≤ 3072 ∧ (Jvm.Cond.and given_1 narrow_1).before args s = true
def lw_Q (_ : Array Value) (s : State) (o : Outcome) (t : State) : Prop := o = .returned (some (.int 1)) ∧ Framed s o t [] 601024 7293034
def lw_Z (below : List Frame) (a : Array Value) (s : State) : State → Prop := fun t => ∃ o, t.status = .running ∧ Ended t below o ∧ lw_Q a s o t
/-- the law's own end, with 1 on the stack, nothing written that was there before, its room as the claim has it -/
theorem lw_ret {p : Program} {l : Launch} {e : Env} {s : State} {m : MethodId} {below : List Frame} {meth : Method} {c : Code} {b : Nat} (hx : p.tables.exec = Jvm.exec) (hb : c.code = code) (hr : meth.sig.returnType = ret) (hlocks : meth.locks = false) {pc : Nat} {H : Heap} {ls : Array Slot} (hdg : decode code pc = .ok (.ireturn, 1)) : W p l e room_1 s m #[Value.ref b] below meth c H [] 601024 7293034 (lw_Z below #[Value.ref b] s) (F0 m pc ls [.int 1]) := by
  intro T hT X
  obtain ⟨fs, hret, hrun, hended, hW, hframe⟩ := X.leave (v := some (.int 1)) (hlocks := hlocks) (fun h => by rw [hr] at h; cases h)
  have hmeth' : T.vm.method? m = some meth := X.method'
  refine ⟨T.setFrames fs, ?_, .returned (some (.int 1)), hrun, hended, rfl, ⟨_, rfl⟩, hW, hframe⟩
  jvm_step X.here [X.here.top, hx, hb, hdg, hmeth', hr, ret, narrow_b1]
  (try refine ⟨rfl, ?_⟩); (try refine ⟨rfl, ?_⟩)
  first | (intro acts; rw [hret _ acts rfl rfl rfl]) | rw [hret _ _ rfl rfl rfl]
  exact Steps.refl _
/-- what holds at the law's entry: the machine, the code, the tables' words (any of lw_tbl by 'hts w (by decide +kernel)'), the script of L ints xs at the cell b, what the Statement gives of the start (any of its parts by flat_of_before) -/
def lw_At (p : Program) (s : State) (m : MethodId) (meth : Method) (c : Code) (b L : Nat) (xs : Nat → Int32) : Prop :=
  p.tables.exec = Jvm.exec ∧ c.code = code ∧ meth.sig.returnType = ret ∧ c.maxLocals = 7 ∧ s.vm.findClass R_law = some m.cls ∧ (∀ w ∈ lw_tbl, w.before #[Value.ref b] s = true) ∧ va_X b L xs s s.heap ∧ b < s.heap.size ∧ meth.locks = false ∧ (Jvm.Cond.and given_1 narrow_1).before #[Value.ref b] s = true
/-! ===== what is known of the start, as the law goes on ===== -/
def Ap (A : Nat → Prop) (s : State) : Nat → Prop := fun q => A q ∨ s.heap.size ≤ q
def wkW : Cond → Bool
  | .fieldLinkNest .. => true
  | .methodLinkNest .. => true
  | .castable .. => true
  | .declares .. => true
  | _ => false
def GW : List Cond := nestW ++ (.castable "[I" "java/lang/Cloneable" :: .castable "TrainDesk$Train" OB :: .declares GCL :: XL.filter (fun w => !goodWord w))
theorem GW_ok0 : GW.all (fun w => wkW w && w.onTables) = true := by decide +kernel
theorem GW_ok {w : Cond} (h : w ∈ GW) : wkW w = true ∧ w.onTables = true := by
  have := List.all_eq_true.mp GW_ok0 w h
  rwa [Bool.and_eq_true] at this
theorem GW_in0 : GW.all (fun w => decide (w ∈ lw_tbl)) = true := by decide +kernel
theorem GW_in {w : Cond} (h : w ∈ GW) : w ∈ lw_tbl := of_decide_eq_true (List.all_eq_true.mp GW_in0 w h)
theorem wk_warm {w : Cond} {s U : State} (h : wkW w = true) (hW : s.WarmedH U.vm) (hZ : va_Nw w s) : va_Nw w U := by
  cases w with
  | fieldLinkNest => exact va_Nw.warmF hW hZ
  | methodLinkNest => exact va_Nw.warmM hW hZ
  | castable => exact va_Nw.warmC hW hZ
  | declares => exact va_Nw.warmD hW hZ
  | _ => cases h
def GG (tE mi s1 s2 b len : Nat) (xs : Nat → Int32) (A : Nat → Prop) (s : State) : Prop := (∀ w ∈ GW, va_Nw w s) ∧ va_Z "java/util/ArrayList" "DEFAULTCAPACITY_EMPTY_ELEMENTDATA" OBA (.ref tE) (Ap A s) s s.heap ∧ va_T (.object OB) tE 0 (fun _ => .null) (Ap A s) s s.heap ∧ va_AO OB s ∧ va_Mi OBA mi s ∧ vk_R RX7 231 "no such train" s1 s ∧ vk_R RX7 236 "the part was not there" s2 s ∧ vx_Zq Bundle.tN "UNASSIGNED_STACK" Bundle.steD (Ap A s) s s.heap ∧ vx_Zq Bundle.tN "SUPPRESSED_SENTINEL" Bundle.listD (Ap A s) s s.heap ∧ va_X b len xs s s.heap ∧ b < s.heap.size ∧ ¬ A b
section GGS
variable {tE mi s1 s2 b len : Nat} {xs : Nat → Int32}
theorem GG_ok : GOK (GG tE mi s1 s2 b len xs) := by
  refine ⟨fun A s U hv hh h => ?_, fun A A' s U locs h hW hS hA => ?_⟩
  · obtain ⟨h1, h2, h3, h4, h5, h6, h7, h8, h9, h10, h11, h12⟩ := h
    have hal : s.vm.Alike U.vm := by rw [hv]; exact Vm.Alike.refl _
    have hap : Ap A U = Ap A s := by unfold Ap; rw [hh]
    unfold GG
    rw [hap, ← hh]
    exact ⟨fun w hw => (h1 w hw).same (GW_ok hw).2 hv, h2.moved hal, h3.moved hal, h4.moved hal, h5.moved hal, h6.same hv.symm, h7.same hv.symm, h8.moved hal, h9.moved hal, h10.moved hal, h11, h12⟩
  · obtain ⟨h1, h2, h3, h4, h5, h6, h7, h8, h9, h10, h11, h12⟩ := h
    have hal := hW.alike
    have hq : ∀ a : Nat, a < s.heap.size → ¬ Ap A s a → U.heap[a]? = s.heap[a]? := fun a z1 z2 => hS.2.1 a z1 (fun z => z2 (Or.inl z))
    have hn : ∀ q, Ap A' U q → Ap A s q := fun q hq => by
      rcases hq with z | z
      · by_cases y : q < s.heap.size
        · exact Or.inl (hA q z y)
        · exact Or.inr (Nat.le_of_not_lt y)
      · exact Or.inr (Nat.le_trans hS.1 z)
    exact ⟨fun w hw => wk_warm (GW_ok hw).1 hW (h1 w hw), ((h2.moved hal).kept hq).narrow hn, ((h3.moved hal).kept hq).narrow hn, h4.moved hal, h5.moved hal, h6.warm hW, h7.warm hW, ((h8.moved hal).kept hq).narrow hn, ((h9.moved hal).kept hq).narrow hn, (h10.moved hal).kept (hS.2.1 b h11 h12), Nat.lt_of_lt_of_le h11 hS.1, fun z => h12 (hA b z h11)⟩
variable {E : VE}
theorem GG_H (hE : E.2.2.2 = GG tE mi s1 s2 b len xs) : GH E tE mi := by
  refine ⟨fun A s h w hw => ?_, fun A s h => ?_⟩
  · rw [hE] at h
    exact h.1 w (List.mem_append_left _ hw)
  · rw [hE] at h
    obtain ⟨h1, h2, h3, h4, h5, _⟩ := h
    exact ⟨h1 _ (List.mem_append_right _ List.mem_cons_self), h1 _ (List.mem_append_right _ (List.mem_cons_of_mem _ List.mem_cons_self)), h2.narrow (fun q z => Or.inl z), h3.narrow (fun q z => Or.inl z), h4, h5, h1 _ (List.mem_append_right _ (List.mem_cons_of_mem _ (List.mem_cons_of_mem _ List.mem_cons_self)))⟩
theorem GG_X (hE : E.2.2.2 = GG tE mi s1 s2 b len xs) (hf : E.1.flags = flags0) : GX E s1 s2 := by
  refine ⟨?_, fun A s h => ?_⟩
  · unfold Launch.stackTraces
    rw [hf]
    decide +kernel
  · rw [hE] at h
    obtain ⟨h1, _, _, _, _, h6, h7, h8, h9, _⟩ := h
    exact ⟨fun w hw => h1 w (List.mem_append_right _ (List.mem_cons_of_mem _ (List.mem_cons_of_mem _ (List.mem_cons_of_mem _ hw)))), h6, h7, h8.narrow (fun q z => Or.inl z), h9.narrow (fun q z => Or.inl z)⟩
theorem GG_S (hE : E.2.2.2 = GG tE mi s1 s2 b len xs) : SC E b len xs := fun A s h => by
  rw [hE] at h
  exact h.2.2.2.2.2.2.2.2.2
end GGS
theorem Lh_entry (av : List Value) (nL : Nat) (hav : ∀ v ∈ av, v.category = 1) (hnl : av.length ≤ nL) : Lh (lg_sl av ++ List.replicate (nL - (lg_sl av).length) Slot.unset).toArray nL (av.map some ++ List.replicate (nL - av.length) none) := by
  have hl := lv_entry av (n := nL) (by rw [sl_len av hav]; exact hnl)
  have key : ∀ (i : Nat) (v : Value), (av.map some ++ List.replicate (nL - av.length) none)[i]? = some (some v) → av[i]? = some v := by
    intro i v h
    by_cases hi : i < av.length
    · rw [List.getElem?_append_left (by simpa using hi), List.getElem?_map] at h
      cases ha : av[i]? with
      | none => rw [ha] at h; cases h
      | some w => rw [ha] at h; cases h; rfl
    · rw [List.getElem?_append_right (by simpa using Nat.not_lt.mp hi)] at h
      have := List.eq_of_mem_replicate (List.mem_of_getElem? h)
      cases this
  refine ⟨⟨hl.1, hl.2.1, fun q hq => ?_⟩, fun i v h => hav v (List.mem_of_getElem? (key i v h))⟩
  have h1 := lvOf_args av hav 0 q.1 q.2 (key _ _ (mem_lvOf.mp hq))
  rw [Nat.zero_add] at h1
  exact hl.2.2 q h1
/-- from the layer to the claim's own end -/
theorem lw_conv {E : VE} {p : Program} {e : Env} {s : State} {m : MethodId} {args : Array Value} {below : List Frame} {meth : Method} {c : Code} {H : Heap} {locs : List Loc} {cl sl : Nat} {F : JFrame} (k : W p E.1 e (RM 2048 601024 7293034) s m args below meth c H locs cl sl (MQ below (Q0 E (fun q => s.heap.size ≤ q) (fun r _ => r = some (.int 1))) args s 601024 7293034 (fun q => s.heap.size ≤ q)) F) : W p E.1 e room_1 s m args below meth c H locs cl sl (lw_Z below args s) F := by
  intro T hT X
  have hroom : s.hasRoom e.platform (RM 2048 601024 7293034) = true := by
    have h := X.room
    unfold State.hasRoom at h ⊢
    rw [Bool.and_eq_true, Bool.and_eq_true, Bool.and_eq_true, Bool.and_eq_true, decide_eq_true_iff, decide_eq_true_iff, decide_eq_true_iff, decide_eq_true_iff] at h ⊢
    have r1 : room_1.locals = 84000 := rfl
    have r2 : room_1.frames = 2048 := rfl
    have r3 : room_1.cells = 601024 := rfl
    have r4 : room_1.slots = 7293034 := rfl
    rw [r1, r2, r3, r4] at h
    obtain ⟨⟨⟨⟨h1, h2, h3, h4, h5, h6⟩, h7⟩, h8⟩, h9⟩ := h
    dsimp only [RM]
    exact ⟨⟨⟨⟨by omega, by omega, by omega, by omega, by omega, h6⟩, by omega⟩, by omega⟩, h9⟩
  obtain ⟨t, a1, o, b1, b2, ⟨⟨v, ws', hv, hp, _, _⟩, _⟩, L, hF, hL⟩ := k T hT ⟨X.admits, X.cas, X.clock, X.frames, hroom, X.hears, X.method, X.code, X.here, X.tail, X.warmed, X.limits, X.bytes, X.same⟩
  refine ⟨t, a1, o, b1, b2, by rw [hv, hp], hF.1, hF.2.1, ?_⟩
  obtain ⟨h1, h2, h3, h4, h5, h6⟩ := hF.2.2
  refine ⟨h1, h2, h3, h4, h5, fun a c hc => ?_⟩
  obtain ⟨c', e1, e2, e3, e4⟩ := h6 a c hc
  exact ⟨c', e1, e2, e3, fun i _ => e4 i (fun z => absurd (hL _ z) (Nat.not_le.mpr (Array.getElem?_eq_some_iff.mp hc).1))⟩
set_option maxHeartbeats 4000000 in
set_option maxRecDepth 20000 in
theorem whole_start {p : Program} {e : Env} {s : State} {m : MethodId} {below : List Frame} {meth : Method} {c : Code} (l : Launch) (hflags : l.flags = flags0) {b L : Nat} {xs : Nat → Int32} (hL : L ≤ 3072) (C0 : lw_At p s m meth c b L xs) : W p l e room_1 s m #[Value.ref b] below meth c s.heap [] 0 0 (lw_Z below #[Value.ref b] s) (entryFrame m ([Value.ref b] : List Value).toArray 7) := by
  obtain ⟨hx, hb, hr, hml, hown, hts, hX, hbl, hlocks, hgv⟩ := id C0
  have hfl := flat_of_before _ hgv
  have hA0 : ∀ a : Nat, a < s.heap.size → ¬ Ap (fun q : Nat => s.heap.size ≤ q) s a := fun a ha z => by
    rcases z with z | z
    · exact absurd z (Nat.not_le.mpr ha)
    · exact absurd z (Nat.not_le.mpr ha)
  obtain ⟨c0, iS0, hKn0⟩ := u_known (C := RX0) (T := TX0) (N := 2) (n := 2) hts (fun w hw => TB_in (ui_X0 w hw)) (hts _ (TB_in wd_in_X0))
  obtain ⟨c1, iS1, hKn1⟩ := u_known (C := RX1) (T := TX1) (N := 8) (n := 8) hts (fun w hw => TB_in (ui_X1 w hw)) (hts _ (TB_in wd_in_X1))
  obtain ⟨c2, iS2, hKn2⟩ := u_known (C := RX2) (T := TX2) (N := 2) (n := 2) hts (fun w hw => TB_in (ui_X2 w hw)) (hts _ (TB_in wd_in_X2))
  obtain ⟨c3, iS3, hKn3⟩ := u_known (C := RX3) (T := TX3) (N := 3) (n := 3) hts (fun w hw => TB_in (ui_X3 w hw)) (hts _ (TB_in wd_in_X3))
  obtain ⟨c4, iS4, hKn4⟩ := u_known (C := RX4) (T := TX4) (N := 2) (n := 2) hts (fun w hw => TB_in (ui_X4 w hw)) (hts _ (TB_in wd_in_X4))
  obtain ⟨c5, iS5, hKn5⟩ := u_known (C := RX5) (T := TX5) (N := 2) (n := 2) hts (fun w hw => TB_in (ui_X5 w hw)) (hts _ (TB_in wd_in_X5))
  obtain ⟨c6, iS6, hKn6⟩ := u_known (C := RX6) (T := TX6) (N := 4) (n := 4) hts (fun w hw => TB_in (ui_X6 w hw)) (hts _ (TB_in wd_in_X6))
  obtain ⟨c7, iS7, hKn7⟩ := u_known (C := RX7) (T := TX7) (N := 11) (n := 11) hts (fun w hw => TB_in (ui_X7 w hw)) (hts _ (TB_in wd_in_X7))
  obtain ⟨c8, iS8, hKn8⟩ := u_known (C := RX8) (T := TX8) (N := 33) (n := 33) hts (fun w hw => TB_in (ui_X8 w hw)) (hts _ (TB_in wd_in_X8))
  obtain ⟨c9, iS9, hKn9⟩ := u_known (C := RJx4a65c) (T := TJx4a65c) (N := 3) (n := 3) hts (fun w hw => TB_in (ui_Jx4a65c w hw)) (hts _ (TB_in wd_in_Jx4a65c))
  obtain ⟨dC, dI, hKc⟩ : ∃ (dC : Nat → ClassId) (dI : Nat → Nat → Nat), ∀ (k : Nat) (q : vw_C), CL[k]? = some q → u_Kn s q.1 q.2.1 q.2.2 (dC k) (dI k) := by
    refine ⟨fun k => if k = 0 then c0 else if k = 1 then c1 else if k = 2 then c2 else if k = 3 then c3 else if k = 4 then c4 else if k = 5 then c5 else if k = 6 then c6 else if k = 7 then c7 else if k = 8 then c8 else c9, fun k => if k = 0 then iS0 else if k = 1 then iS1 else if k = 2 then iS2 else if k = 3 then iS3 else if k = 4 then iS4 else if k = 5 then iS5 else if k = 6 then iS6 else if k = 7 then iS7 else if k = 8 then iS8 else iS9, ?_⟩
    intro k q hq
    match k, hq with
    | 0, hq => cases hq; exact hKn0
    | 1, hq => cases hq; exact hKn1
    | 2, hq => cases hq; exact hKn2
    | 3, hq => cases hq; exact hKn3
    | 4, hq => cases hq; exact hKn4
    | 5, hq => cases hq; exact hKn5
    | 6, hq => cases hq; exact hKn6
    | 7, hq => cases hq; exact hKn7
    | 8, hq => cases hq; exact hKn8
    | 9, hq => cases hq; exact hKn9
    | k + 10, hq => simp [CL] at hq
  obtain ⟨aI, kI, pI, i1, i2, i3⟩ := Cond.arrayClass_spec (hts (.arrayClass .int) (TB_in wd_ar_int))
  obtain ⟨aZ, kZ, pZ, z1, z2, z3⟩ := Cond.arrayClass_spec (hts (.arrayClass .boolean) (TB_in wd_ar_boolean))
  obtain ⟨aJ, kJ, pJ, j1, j2, j3⟩ := Cond.arrayClass_spec (hts (.arrayClass .long) (TB_in wd_ar_long))
  have hao : (Cond.arrayOver (.object OB)).before #[Value.ref b] s = true := hts _ (by decide +kernel)
  obtain ⟨pO, aO, kO, o1, _, o3, o4, o5⟩ := Cond.arrayOver_spec hao
  obtain ⟨tE, hte, hT⟩ := va_Tof (args := #[Value.ref b]) (s := s) (tm := .static "java/util/ArrayList" "DEFAULTCAPACITY_EMPTY_ELEMENTDATA" OBA) (ty := .object OB) (N := 0) (f := fun _ => .null) (A := Ap (fun q : Nat => s.heap.size ≤ q) s) (by decide) (hfl _ (by decide +kernel)) (va_eqt (hfl (.eq (.length (.static "java/util/ArrayList" "DEFAULTCAPACITY_EMPTY_ELEMENTDATA" OBA)) (.int 0)) (by decide +kernel))) (fun j hj => absurd hj (Nat.not_lt_zero _)) hA0
  have hZ := va_Zof (args := #[Value.ref b]) (s := s) (C := "java/util/ArrayList") (n := "DEFAULTCAPACITY_EMPTY_ELEMENTDATA") (d := OBA) (v := .ref tE) (A := Ap (fun q : Nat => s.heap.size ≤ q) s) (hts _ (by decide +kernel)) (hts _ (by decide +kernel)) hte hA0
  obtain ⟨mi, hmi⟩ := va_Mi.of (args := #[Value.ref b]) (s := s) (C := OBA) (hfl _ (by decide +kernel))
  obtain ⟨s1, _, _, _, hs1, _⟩ := Cond.exactly_spec (hfl (.exactly (.string RX7 231) "java/lang/String") (by decide +kernel))
  obtain ⟨s2, _, _, _, hs2, _⟩ := Cond.exactly_spec (hfl (.exactly (.string RX7 236) "java/lang/String") (by decide +kernel))
  have hu1 := vx_Zqof (args := #[Value.ref b]) (s := s) (C := Bundle.tN) (n := "UNASSIGNED_STACK") (d := Bundle.steD) (A := Ap (fun q : Nat => s.heap.size ≤ q) s) (hts _ (by decide +kernel)) (hts _ (by decide +kernel)) (hfl _ (by decide +kernel)) hA0
  have hu2 := vx_Zqof (args := #[Value.ref b]) (s := s) (C := Bundle.tN) (n := "SUPPRESSED_SENTINEL") (d := Bundle.listD) (A := Ap (fun q : Nat => s.heap.size ≤ q) s) (hts _ (by decide +kernel)) (hts _ (by decide +kernel)) (hfl _ (by decide +kernel)) hA0
  have hGG : GG tE mi s1 s2 b L xs (fun q : Nat => s.heap.size ≤ q) s := ⟨fun w hw => va_Nw.of (GW_ok hw).2 (hts w (GW_in hw)), hZ, hT, va_AO.of hao, hmi, vk_R.of (hts (.stringRef RX7 231 "no such train") (by decide +kernel)) hs1, vk_R.of (hts (.stringRef RX7 236 "the part was not there") (by decide +kernel)) hs2, hu1, hu2, hX, hbl, Nat.not_le.mpr hbl⟩
  have hK : va_K (dC, dI) CL [(aI, .int), (aZ, .boolean), (aJ, .long), (aO, .object OB)] s := by
    refine ⟨hKc, fun k q hq => ?_⟩
    match k, hq with
    | 0, hq => cases hq; exact ⟨fun n z => ⟨fun k h => (by cases h), kI, i2, pI, i3⟩, i1⟩
    | 1, hq => cases hq; exact ⟨fun n z => ⟨fun k h => (by cases h), kZ, z2, pZ, z3⟩, z1⟩
    | 2, hq => cases hq; exact ⟨fun n z => ⟨fun k h => (by cases h), kJ, j2, pJ, j3⟩, j1⟩
    | 3, hq => cases hq; exact ⟨fun n z => ⟨fun k h => (by cases h), kO, o3, pO, o4⟩, kO, pO, o3, o4, o1, o5⟩
    | k + 4, hq => simp at hq
  have hCx : Cx (l, (dC, dI), (aI, aZ, aJ, aO), GG tE mi s1 s2 b L xs) (yW meth.name "") cL_law 7 (some .boolean) p s m #[Value.ref b] meth c (fun q : Nat => s.heap.size ≤ q) := ⟨hx, hb, hr, hml, hown, fun w hw => hts w (TB_in hw), hlocks, rfl, hK, fun _ h => h, GG_ok, hGG⟩
  rw [lg_entry_eq]
  refine lw_conv (E := (l, (dC, dI), (aI, aZ, aJ, aO), GG tE mi s1 s2 b L xs)) ?_
  exact law_V (E := (l, (dC, dI), (aI, aZ, aJ, aO), GG tE mi s1 s2 b L xs)) (nm := meth.name) (ds := "") (post := fun r _ => r = some (.int 1)) (GG_H rfl) (GG_X rfl hflags) (GG_S rfl) hL (fun _ => rfl) p e s m #[Value.ref b] below meth c s.heap [] _ (fun q : Nat => s.heap.size ≤ q) hCx (Lh_entry [.ref b] 7 (fun v hv => by simp at hv; subst hv; rfl) (Nat.le_of_ble_eq_true rfl)) (fun k q h => by simp at h) ⟨fun i j p q h => by simp at h, fun k q h => by simp at h⟩ va_S.rf
