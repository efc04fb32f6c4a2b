/-! ===== the law's cases: order, send, oneWay, back ===== -/
theorem lt_of_some {ws : va_W} {q : Nat} {v : Nat × va_E} (h : ws[q]? = some v) : q < ws.length := (List.getElem?_eq_some_iff.mp h).1
theorem lg_notO {E : VE} {a oa c : Nat} {f : Nat → Int64} {q : Nat → Option Nat} (z : some (oa, (Sum.inl (cJ E, 1, Sum.inr (Sum.inl f)) : va_E)) = some (a, rO E c q)) : False := by
  have h1 := congrArg Prod.snd (Option.some.inj z)
  have h2 := congrArg (fun x => x.2.2) (Sum.inl.inj h1)
  have h3 := Sum.inr.inj h2
  cases h3
theorem lg_notR {E : VE} {a oa : Nat} {f : Nat → Int64} {fs : List Value} (z : some (oa, (Sum.inl (cJ E, 1, Sum.inr (Sum.inl f)) : va_E)) = some (a, Sum.inr (6, fs))) : False := by
  have h1 := congrArg Prod.snd (Option.some.inj z)
  cases h1
theorem Wd_out {E : VE} {ad : Nat → Nat} {el : Nat} {g : Nat → Nat → Int32} {ws : va_W} {v : Nat × va_E} (h : Wd E ad el g ws) : Wd E ad el g (ws.set 46 v) := fun k hk => by
  rw [List.getElem?_set_ne (by omega)]
  exact h k hk
theorem set_out {E : VE} {ws : va_W} {oa : Nat} {f f2 : Nat → Int64} (h : ws[46]? = some (oa, .inl (cJ E, 1, .inr (.inl f)))) : (ws.set 46 (oa, (.inl (cJ E, 1, .inr (.inl f2)) : va_E)))[46]? = some (oa, .inl (cJ E, 1, .inr (.inl f2))) := List.getElem?_set_self (lt_of_some h)
theorem lg_notI {E : VE} {a oa c : Nat} {f : Nat → Int64} {q : Nat → Int32} (z : some (oa, (Sum.inl (cJ E, 1, Sum.inr (Sum.inl f)) : va_E)) = some (a, Sum.inl (cI E, c, Sum.inl q))) : False := by
  have h1 := congrArg Prod.snd (Option.some.inj z)
  have h2 := congrArg (fun x => x.2.2) (Sum.inl.inj h1)
  cases h2
theorem DY_out {E : VE} {el tE n : Nat} {T : Nat → TR} {ws : va_W} {oa : Nat} {f f2 : Nat → Int64} (hd : DY E el tE n T ws) (ho : ws[46]? = some (oa, .inl (cJ E, 1, .inr (.inl f)))) : DY E el tE n T (ws.set 46 (oa, .inl (cJ E, 1, .inr (.inl f2)))) := by
  obtain ⟨tb, xa, xo, xb, qe, cap, fe, h1, h2, h3⟩ := hd
  refine ⟨tb, xa, xo, xb, qe, cap, fe, fun t ht => ?_, h2, ?_⟩
  · obtain ⟨a1, a2, a3, a4⟩ := h1 t ht
    refine ⟨a1, ?_, ?_, ?_⟩
    · rw [List.getElem?_set_ne (fun z => by rw [← z, ho] at a2; exact lg_notI a2)]
      exact a2
    · rw [List.getElem?_set_ne (fun z => by rw [← z, ho] at a3; exact lg_notR a3)]
      exact a3
    · rw [List.getElem?_set_ne (fun z => by rw [← z, ho] at a4; exact lg_notI a4)]
      exact a4
  · rcases h3 with h3 | ⟨b1, b2, b3, b4⟩
    · exact Or.inl h3
    · refine Or.inr ⟨b1, b2, ?_, b4⟩
      rw [List.getElem?_set_ne (fun z => by rw [← z, ho] at b3; exact lg_notO b3)]
      exact b3
theorem wl_4 : yL_was.cls ≠ "java/lang/invoke/MethodHandle" ∧ yL_was.cls ≠ "java/lang/invoke/VarHandle" ∧ (parseMethodDescriptor yL_was.desc).map (fun d => d.parameters.length) = some 5 := by decide +kernel
section LAW4
variable {E : VE} {ad : Nat → Nat} {tE mi s1 s2 b len : Nat} {xs : Nat → Int32} {oa : Nat} {nm ds : String} {ws : va_W} {i cl sl : Nat} {z5 z6 : Option Value} {post : Option Value → va_W → Prop}
set_option maxHeartbeats 4000000 in
set_option maxRecDepth 20000 in
theorem lc_13 (hE : GH E tE mi) (hX : GX E s1 s2) (hSc : SC E b len xs) (hlen : len ≤ 3072) (hi : 6 * i + 6 ≤ len) (hcl : cl + 5 ≤ 601024) (hsl : sl + 144 ≤ 7293034) (hS : LWS E ad tE oa ws) (K : KNX E ad nm ds tE b oa i cl sl post) : V E (yW nm ds) cL_law 7 (some .boolean) 2048 601024 7293034 post 561 [some (.ref b), some (.ref (ad 0)), some (.ref (ad 25)), some (.ref oa), some (.int (nI (6 * i))), z5, z6] [] ws cl sl := by
  obtain ⟨el, g, T, n, f, hw, hd, ho, nP, nN, nT, nW, C, hI⟩ := hS
  have hC := hI.1
  have hP := hC.1.1
  have hP10 := hC.1.2.2
  have hN := hC.2.1.1
  have hN30 := hC.2.1.2.2
  have hT := hC.2.2.1.1
  have hT12 := hC.2.2.1.2.2
  have hW := hC.2.2.2.1.1
  have hW60 := hC.2.2.2.1.2.2
  have hn := hC.2.2.2.2.1
  have hn60 := hC.2.2.2.2.2.2
  have hnok := hI.2.1.2.1.nok hP10
  have hw0 : WF E ad el g ws ws := ⟨hw, Fr.rf⟩
  obtain ⟨bo, hbo, hod, hbe⟩ := c_ord hI
  refine V_aload_n dL_law_561 rfl ?_
  refine V_aload_n dL_law_562 rfl ?_
  refine V_iload dL_law_563 rfl ?_
  refine V_iconst (v := 1) dL_law_565 (by decide) ?_
  refine V_iadd dL_law_566 ?_
  refine V_sld hSc (6 * i + 1) (nI_add (6 * i) 1) (by omega) (by omega) dL_law_567 ?_
  refine V_callV (0) mw_X7_order mv_L_77 dL_law_568 (ct_X7_order hw0 (xs (6 * i + 1))) hw0.p0 rfl rfl rfl (Nat.le_of_ble_eq_true rfl) (by decide) (by decide) (by omega) (by omega) (fun r1 ws1 hp1 => ?_)
  obtain ⟨rfl, rfl⟩ := hp1
  have hr := hI.rfs (KR.rf g)
  refine V_aload_n dL_law_571 rfl ?_
  refine V_aload_n dL_law_572 rfl ?_
  refine V_iload dL_law_573 rfl ?_
  refine V_iconst (v := 1) dL_law_575 (by decide) ?_
  refine V_iadd dL_law_576 ?_
  refine V_sld hSc (6 * i + 1) (nI_add (6 * i) 1) (by omega) (by omega) dL_law_577 ?_
  refine V_callV (25) mw_X8_order mv_L_80 dL_law_578 (ct_X8_order hw hr.1.1 hP10 hr.1.2.1 hN30 hr.2.1 hI.2.2.2.1.1 hr.1.2.2.2.2.2 hbo (xs (6 * i + 1))) hw0.p25 rfl rfl rfl (Nat.le_of_ble_eq_true rfl) (by decide) (by decide) (by omega) (by omega) (fun r2 ws2 hp2 => ?_)
  obtain ⟨rfl, a, f2, rm, hw2⟩ := hp2
  refine V_icmp_eq 923 dL_law_581 (by decide) (fun _ => ?_) (fun h => absurd (hod (xs (6 * i + 1))) h)
  exact K _ _ _ _ _ ⟨el, _, T, n, f, hw2.1, hd.fr hw2.2, (hw2.2.2 46 (by decide)).trans ho, hI.iv ((EqV.t0 g).tr (EqV.sc _ _ _ _))⟩ (by omega) (by omega)
set_option maxHeartbeats 4000000 in
set_option maxRecDepth 20000 in
theorem lc_14 (hE : GH E tE mi) (hX : GX E s1 s2) (hSc : SC E b len xs) (hlen : len ≤ 3072) (hi : 6 * i + 6 ≤ len) (hcl : cl + 5 ≤ 601024) (hsl : sl + 144 ≤ 7293034) (hS : LWS E ad tE oa ws) (K : KNX E ad nm ds tE b oa i cl sl post) : V E (yW nm ds) cL_law 7 (some .boolean) 2048 601024 7293034 post 586 [some (.ref b), some (.ref (ad 0)), some (.ref (ad 25)), some (.ref oa), some (.int (nI (6 * i))), z5, z6] [] ws cl sl := by
  obtain ⟨el, g, T, n, f, hw, hd, ho, nP, nN, nT, nW, C, hI⟩ := hS
  have hC := hI.1
  have hP := hC.1.1
  have hP10 := hC.1.2.2
  have hN := hC.2.1.1
  have hN30 := hC.2.1.2.2
  have hT := hC.2.2.1.1
  have hT12 := hC.2.2.1.2.2
  have hW := hC.2.2.2.1.1
  have hW60 := hC.2.2.2.1.2.2
  have hn := hC.2.2.2.2.1
  have hn60 := hC.2.2.2.2.2.2
  have hnok := hI.2.1.2.1.nok hP10
  have hw0 : WF E ad el g ws ws := ⟨hw, Fr.rf⟩
  obtain ⟨tb, xa, xo, xb, qe, cap, fe, hd0⟩ := id hd
  obtain ⟨bo, hbo, hod, hbe⟩ := c_ord hI
  refine V_aload_n dL_law_586 rfl ?_
  refine V_callV (0) mw_X7_send mv_L_81 dL_law_587 (ct_X7_send hE hw hd0 hn hn60 hP hP10) hw0.p0 rfl rfl rfl (Nat.le_of_ble_eq_true rfl) (by decide) (by decide) (by omega) (by omega) (fun r1 ws1 hp1 => ?_)
  rcases hp1 with ⟨hb, rfl, rfl⟩ | ⟨hb, rfl, el2, ha, hbb, hha, hhb, hw1, hd1, hkp⟩
  · have hr := hI.rfs (KR.rf g)
    refine V_aload_n dL_law_590 rfl ?_
    refine V_callV (25) mw_X8_send mv_L_84 dL_law_591 (ct_X8_send hw hr.1.1 hP10 hr.1.2.1 hN30 hr.2.1 hI.2.2.2.1.1 hr.1.2.2.2.2.2 hr.1.2.2.2.2.1 hn60 hbo) hw0.p25 rfl rfl rfl (Nat.le_of_ble_eq_true rfl) (by decide) (by decide) (by omega) (by omega) (fun r2 ws2 hp2 => ?_)
    rcases hp2 with ⟨_, rfl, hw2⟩ | ⟨hn6, a, f2, rm, ⟨_, rfl, hw2⟩ | ⟨hbt, _⟩⟩
    · refine V_icmp_eq 923 dL_law_594 (by decide) (fun _ => ?_) (fun h => absurd rfl h)
      exact K _ _ _ _ _ ⟨el, _, T, n, f, hw2.1, hd.fr hw2.2, (hw2.2.2 46 (by decide)).trans ho, hI.iv (EqV.t0 g)⟩ (by omega) (by omega)
    · refine V_icmp_eq 923 dL_law_594 (by decide) (fun _ => ?_) (fun h => absurd rfl h)
      exact K _ _ _ _ _ ⟨el, _, T, n, f, hw2.1, hd.fr hw2.2, (hw2.2.2 46 (by decide)).trans ho, hI.iv ((EqV.t0 g).tr (EqV.sc _ _ _ _))⟩ (by omega) (by omega)
    · exfalso
      subst hbt
      unfold dSndB at hb
      rw [← Bool.and_assoc, hbe, decide_eq_true (show n < 60 by omega)] at hb
      cases hb
  · have hsb := hb
    unfold dSndB at hsb
    rw [← Bool.and_assoc, hbe, Bool.and_eq_true, decide_eq_true_eq] at hsb
    obtain ⟨hbt, hn6⟩ := hsb
    subst hbt
    have hkr := kr_snd (g := g) nP
    have hcut : ¬ g 25 25 = 0 := fun z => by
      rw [cut_off hI.2.2.2.1 z] at hbe
      cases hbe
    have hrd : RD (T0 g) (T0 (dSndG g nP)) := ⟨by rw [T0_k (by decide), T0_k (by decide), hkr 26 (by decide)], by rw [T0_k (by decide), T0_k (by decide), hkr 27 (by decide)], by rw [T0_k (by decide), T0_k (by decide), hkr 31 (by decide)], by rw [T0_k (by decide), T0_k (by decide), hkr 32 (by decide)], by rw [T0_k (by decide), T0_k (by decide), hkr 33 (by decide)], by rw [T0_k (by decide), T0_k (by decide), hkr 34 (by decide)], by rw [T0_k (by decide), T0_k (by decide), hkr 35 (by decide)]⟩
    have hbo1 : OrdOK (T0 (dSndG g nP)) nN nP C true := (OrdOK_c (fun s => hrd.brk nN s) (by show dSndG g nP 25 25 = g 25 25; rw [hkr 25 (by decide)])).mpr hbo
    have hr := hI.rfs hkr
    have hw1F : WF E ad el2 (dSndG g nP) ws1 ws1 := ⟨hw1, Fr.rf⟩
    refine V_aload_n dL_law_590 rfl ?_
    refine V_callV (25) mw_X8_send mv_L_84 dL_law_591 (ct_X8_send hw1 hr.1.1 hP10 hr.1.2.1 hN30 hr.2.1 hI.2.2.2.1.1 hr.1.2.2.2.2.2 hr.1.2.2.2.2.1 hn60 hbo1) hw1F.p25 rfl rfl rfl (Nat.le_of_ble_eq_true rfl) (by decide) (by decide) (by omega) (by omega) (fun r2 ws2 hp2 => ?_)
    rcases hp2 with ⟨hn6', _⟩ | ⟨_, a, f2, rm, ⟨hbf, _⟩ | ⟨_, rfl, hw2⟩⟩
    · omega
    · cases hbf
    · refine V_icmp_eq 923 dL_law_594 (by decide) (fun _ => ?_) (fun h => absurd rfl h)
      refine K _ _ _ _ _ ⟨el2, _, _, n + 1, f, hw2.1, hd1.fr hw2.2, (hw2.2.2 46 (by decide)).trans ((hkp 46 (by decide) (lt_of_some ho) (fun a c q z => ?_)).trans ho), c_send hI hcut hn6 hha hhb a f2 rm⟩ (by omega) (by omega)
      rw [ho] at z
      exact lg_notO z
set_option maxHeartbeats 4000000 in
set_option maxRecDepth 20000 in
theorem lc_17 (hE : GH E tE mi) (hX : GX E s1 s2) (hSc : SC E b len xs) (hlen : len ≤ 3072) (hi : 6 * i + 6 ≤ len) (hcl : cl + 5 ≤ 601024) (hsl : sl + 144 ≤ 7293034) (hS : LWS E ad tE oa ws) (K : KNX E ad nm ds tE b oa i cl sl post) : V E (yW nm ds) cL_law 7 (some .boolean) 2048 601024 7293034 post 677 [some (.ref b), some (.ref (ad 0)), some (.ref (ad 25)), some (.ref oa), some (.int (nI (6 * i))), z5, z6] [] ws cl sl := by
  obtain ⟨el, g, T, n, f, hw, hd, ho, nP, nN, nT, nW, C, hI⟩ := hS
  have hC := hI.1
  have hP := hC.1.1
  have hP10 := hC.1.2.2
  have hN := hC.2.1.1
  have hN30 := hC.2.1.2.2
  have hT := hC.2.2.1.1
  have hT12 := hC.2.2.1.2.2
  have hW := hC.2.2.2.1.1
  have hW60 := hC.2.2.2.1.2.2
  have hn := hC.2.2.2.2.1
  have hn60 := hC.2.2.2.2.2.2
  have hnok := hI.2.1.2.1.nok hP10
  have hw0 : WF E ad el g ws ws := ⟨hw, Fr.rf⟩
  obtain ⟨tb, xa, xo, xb, qe, cap, fe, hd0⟩ := id hd
  refine V_aload_n dL_law_677 rfl ?_
  refine V_callV (0) mw_X7_back mv_L_95 dL_law_678 (ct_X7_back hE hw hd0 hn hn60 hI.tok hP hP10 hN hN30 hnok hW hW60) hw0.p0 rfl rfl rfl (Nat.le_of_ble_eq_true rfl) (by decide) (by decide) (by omega) (by omega) (fun r1 ws1 hp1 => ?_)
  obtain ⟨rfl, hw1, hd1, hkb⟩ := hp1
  have hr := hI.rfs (kr_back (T := T) n nP nN nW)
  have hw1F : WF E ad el (dBack g T n nP nN nW).2.1 ws1 ws1 := ⟨hw1, Fr.rf⟩
  refine V_aload_n dL_law_681 rfl ?_
  refine V_callV (25) mw_X8_back mv_L_98 dL_law_682 (ct_X8_back hE hw1 hr.1.1 hP10 hr.1.2.1 hN30 hr.2.1 hr.1.2.2.2.1 hW60 hr.1.2.2.2.2.1 hn60 hr.2.2.2.1) hw1F.p25 rfl rfl rfl (Nat.le_of_ble_eq_true rfl) (by decide) (by decide) (by omega) (by omega) (fun r2 ws2 hp2 => ?_)
  obtain ⟨rfl, hw2, hfx⟩ := hp2
  have hc := c_back hI
  have e1 : ws1[46]? = ws[46]? := hkb 46 (by decide) (lt_of_some ho) (fun a fs z => by rw [ho] at z; exact lg_notR z)
  have ho1 := e1.trans ho
  refine V_icmp_eq 923 dL_law_685 (by decide) (fun _ => ?_) (fun h => absurd hc.1 h)
  exact K _ _ _ _ _ ⟨el, _, _, n, f, hw2, hd1.to (fun j hj hl => hfx j hj hl), (hfx 46 (by decide) (lt_of_some ho1)).trans ho1, hc.2⟩ (by omega) (by omega)
set_option maxHeartbeats 4000000 in
set_option maxRecDepth 20000 in
theorem lc_16 (hE : GH E tE mi) (hX : GX E s1 s2) (hSc : SC E b len xs) (hlen : len ≤ 3072) (hi : 6 * i + 6 ≤ len) (hcl : cl + 5 ≤ 601024) (hsl : sl + 144 ≤ 7293034) (hS : LWS E ad tE oa ws) (K : KNX E ad nm ds tE b oa i cl sl post) : V E (yW nm ds) cL_law 7 (some .boolean) 2048 601024 7293034 post 612 [some (.ref b), some (.ref (ad 0)), some (.ref (ad 25)), some (.ref oa), some (.int (nI (6 * i))), z5, z6] [] ws cl sl := by
  obtain ⟨el, g, T, n, f, hw, hd, ho, nP, nN, nT, nW, C, hI⟩ := hS
  have hC := hI.1
  have hP := hC.1.1
  have hP10 := hC.1.2.2
  have hN := hC.2.1.1
  have hN30 := hC.2.1.2.2
  have hT := hC.2.2.1.1
  have hT12 := hC.2.2.1.2.2
  have hW := hC.2.2.2.1.1
  have hW60 := hC.2.2.2.1.2.2
  have hn := hC.2.2.2.2.1
  have hn60 := hC.2.2.2.2.2.2
  have hnok := hI.2.1.2.1.nok hP10
  have hw0 : WF E ad el g ws ws := ⟨hw, Fr.rf⟩
  refine V_aload_n dL_law_612 rfl ?_
  refine V_aload_n dL_law_613 rfl ?_
  refine V_iload dL_law_614 rfl ?_
  refine V_iconst (v := 1) dL_law_616 (by decide) ?_
  refine V_iadd dL_law_617 ?_
  refine V_sld hSc (6 * i + 1) (nI_add (6 * i) 1) (by omega) (by omega) dL_law_618 ?_
  refine V_aload_n dL_law_619 rfl ?_
  refine V_iload dL_law_620 rfl ?_
  refine V_iconst (v := 2) dL_law_622 (by decide) ?_
  refine V_iadd dL_law_623 ?_
  refine V_sld hSc (6 * i + 2) (nI_add (6 * i) 2) (by omega) (by omega) dL_law_624 ?_
  refine V_aload_n dL_law_625 rfl ?_
  refine V_iload dL_law_626 rfl ?_
  refine V_iconst (v := 3) dL_law_628 (by decide) ?_
  refine V_iadd dL_law_629 ?_
  refine V_sld hSc (6 * i + 3) (nI_add (6 * i) 3) (by omega) (by omega) dL_law_630 ?_
  refine V_if_eq 638 dL_law_631 (by decide) (fun h0 => ?_) (fun h0 => ?_)
  · refine V_iconst (v := 0) dL_law_638 (by decide) ?_
    refine V_callV (0) mw_X7_oneWay mv_L_90 dL_law_639 (ct_X7_oneWay hw hW hW60 (xs (6 * i + 1)) (xs (6 * i + 2)) (bI false)) hw0.p0 rfl rfl rfl (Nat.le_of_ble_eq_true rfl) (by decide) (by decide) (by omega) (by omega) (fun r1 ws1 hp1 => ?_)
    obtain ⟨rfl, hw1⟩ := hp1
    have hr := hI.rfs (kr_oneWay nW (xs (6 * i + 1)) (xs (6 * i + 2)) (bI false))
    refine V_aload_n dL_law_642 rfl ?_
    refine V_aload_n dL_law_643 rfl ?_
    refine V_iload dL_law_644 rfl ?_
    refine V_iconst (v := 1) dL_law_646 (by decide) ?_
    refine V_iadd dL_law_647 ?_
    refine V_sld hSc (6 * i + 1) (nI_add (6 * i) 1) (by omega) (by omega) dL_law_648 ?_
    refine V_aload_n dL_law_649 rfl ?_
    refine V_iload dL_law_650 rfl ?_
    refine V_iconst (v := 2) dL_law_652 (by decide) ?_
    refine V_iadd dL_law_653 ?_
    refine V_sld hSc (6 * i + 2) (nI_add (6 * i) 2) (by omega) (by omega) dL_law_654 ?_
    refine V_aload_n dL_law_655 rfl ?_
    refine V_iload dL_law_656 rfl ?_
    refine V_iconst (v := 3) dL_law_658 (by decide) ?_
    refine V_iadd dL_law_659 ?_
    refine V_sld hSc (6 * i + 3) (nI_add (6 * i) 3) (by omega) (by omega) dL_law_660 ?_
    refine V_if_eq 668 dL_law_661 (by decide) (fun _ => ?_) (fun h1 => absurd h0 h1)
    refine V_iconst (v := 0) dL_law_668 (by decide) ?_
    refine V_callV (25) mw_X8_oneWay mv_L_94 dL_law_669 (ct_X8_oneWay hw1.1 hr.1.2.2.2.1 hW60 (xs (6 * i + 1)) (xs (6 * i + 2)) false) hw1.p25 rfl rfl rfl (Nat.le_of_ble_eq_true rfl) (by decide) (by decide) (by omega) (by omega) (fun r2 ws2 hp2 => ?_)
    obtain ⟨rfl, hw2⟩ := hp2
    have hc := c_oneWay hI (xs (6 * i + 1)) (xs (6 * i + 2)) false
    refine V_icmp_eq 923 dL_law_672 (by decide) (fun _ => ?_) (fun h => absurd hc.1 h)
    exact K _ _ _ _ _ ⟨el, _, T, n, f, hw2.1, (hd.fr hw1.2).fr hw2.2, (hw2.2.2 46 (by decide)).trans ((hw1.2.2 46 (by decide)).trans ho), hc.2⟩ (by omega) (by omega)
  · refine V_iconst (v := 1) dL_law_634 (by decide) ?_
    refine V_goto 639 dL_law_635 (by decide) ?_
    refine V_callV (0) mw_X7_oneWay mv_L_90 dL_law_639 (ct_X7_oneWay hw hW hW60 (xs (6 * i + 1)) (xs (6 * i + 2)) (bI true)) hw0.p0 rfl rfl rfl (Nat.le_of_ble_eq_true rfl) (by decide) (by decide) (by omega) (by omega) (fun r1 ws1 hp1 => ?_)
    obtain ⟨rfl, hw1⟩ := hp1
    have hr := hI.rfs (kr_oneWay nW (xs (6 * i + 1)) (xs (6 * i + 2)) (bI true))
    refine V_aload_n dL_law_642 rfl ?_
    refine V_aload_n dL_law_643 rfl ?_
    refine V_iload dL_law_644 rfl ?_
    refine V_iconst (v := 1) dL_law_646 (by decide) ?_
    refine V_iadd dL_law_647 ?_
    refine V_sld hSc (6 * i + 1) (nI_add (6 * i) 1) (by omega) (by omega) dL_law_648 ?_
    refine V_aload_n dL_law_649 rfl ?_
    refine V_iload dL_law_650 rfl ?_
    refine V_iconst (v := 2) dL_law_652 (by decide) ?_
    refine V_iadd dL_law_653 ?_
    refine V_sld hSc (6 * i + 2) (nI_add (6 * i) 2) (by omega) (by omega) dL_law_654 ?_
    refine V_aload_n dL_law_655 rfl ?_
    refine V_iload dL_law_656 rfl ?_
    refine V_iconst (v := 3) dL_law_658 (by decide) ?_
    refine V_iadd dL_law_659 ?_
    refine V_sld hSc (6 * i + 3) (nI_add (6 * i) 3) (by omega) (by omega) dL_law_660 ?_
    refine V_if_eq 668 dL_law_661 (by decide) (fun h1 => absurd h1 h0) (fun _ => ?_)
    refine V_iconst (v := 1) dL_law_664 (by decide) ?_
    refine V_goto 669 dL_law_665 (by decide) ?_
    refine V_callV (25) mw_X8_oneWay mv_L_94 dL_law_669 (ct_X8_oneWay hw1.1 hr.1.2.2.2.1 hW60 (xs (6 * i + 1)) (xs (6 * i + 2)) true) hw1.p25 rfl rfl rfl (Nat.le_of_ble_eq_true rfl) (by decide) (by decide) (by omega) (by omega) (fun r2 ws2 hp2 => ?_)
    obtain ⟨rfl, hw2⟩ := hp2
    have hc := c_oneWay hI (xs (6 * i + 1)) (xs (6 * i + 2)) true
    refine V_icmp_eq 923 dL_law_672 (by decide) (fun _ => ?_) (fun h => absurd hc.1 h)
    exact K _ _ _ _ _ ⟨el, _, T, n, f, hw2.1, (hd.fr hw1.2).fr hw2.2, (hw2.2.2 46 (by decide)).trans ((hw1.2.2 46 (by decide)).trans ho), hc.2⟩ (by omega) (by omega)
end LAW4
