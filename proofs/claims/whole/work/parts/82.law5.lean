/-! ===== the law's cases: was ===== -/
section LAW5
variable {E : VE} {ad : Nat → Nat} {tE mi s1 s2 b len : Nat} {xs : Nat → Int32} {oa : Nat} {nm ds : String} {ws : va_W} {i cl sl : Nat} {z5 z6 : Option Value} {post : Option Value → va_W → Prop}
set_option maxHeartbeats 4000000 in
set_option maxRecDepth 20000 in
theorem lc_21 (hE : GH E tE mi) (hX : GX E s1 s2) (hSc : SC E b len xs) (hlen : len ≤ 3072) (hi : 6 * i + 6 ≤ len) (hcl : cl + 5 ≤ 601024) (hsl : sl + 144 ≤ 7293034) (hS : LWS E ad tE oa ws) (K : KNX E ad nm ds tE b oa i cl sl post) : V E (yW nm ds) cL_law 7 (some .boolean) 2048 601024 7293034 post 777 [some (.ref b), some (.ref (ad 0)), some (.ref (ad 25)), some (.ref oa), some (.int (nI (6 * i))), z5, z6] [] ws cl sl := by
  obtain ⟨el, g, T, n, f, hw, hd, ho, nP, nN, nT, nW, C, hI⟩ := hS
  have hC := hI.1
  have hP := hC.1.1
  have hP10 := hC.1.2.2
  have hN := hC.2.1.1
  have hN30 := hC.2.1.2.2
  have hT := hC.2.2.1.1
  have hT12 := hC.2.2.1.2.2
  have hW := hC.2.2.2.1.1
  have hW60 := hC.2.2.2.1.2.2
  have hn := hC.2.2.2.2.1
  have hn60 := hC.2.2.2.2.2.2
  have hnok := hI.2.1.2.1.nok hP10
  have hw0 : WF E ad el g ws ws := ⟨hw, Fr.rf⟩
  obtain ⟨tb, xa, xo, xb, qe, cap, fe, hd0⟩ := id hd
  have hr := hI.rfs (KR.rf g)
  refine V_aload_n dL_law_777 rfl ?_
  refine V_aload_n dL_law_778 rfl ?_
  refine V_iload dL_law_779 rfl ?_
  refine V_iconst (v := 1) dL_law_781 (by decide) ?_
  refine V_iadd dL_law_782 ?_
  refine V_sld hSc (6 * i + 1) (nI_add (6 * i) 1) (by omega) (by omega) dL_law_783 ?_
  refine V_aload_n dL_law_784 rfl ?_
  refine V_iload dL_law_785 rfl ?_
  refine V_iconst (v := 2) dL_law_787 (by decide) ?_
  refine V_iadd dL_law_788 ?_
  refine V_sld hSc (6 * i + 2) (nI_add (6 * i) 2) (by omega) (by omega) dL_law_789 ?_
  refine V_aload_n dL_law_790 rfl ?_
  refine V_iload dL_law_791 rfl ?_
  refine V_iconst (v := 3) dL_law_793 (by decide) ?_
  refine V_iadd dL_law_794 ?_
  refine V_sld hSc (6 * i + 3) (nI_add (6 * i) 3) (by omega) (by omega) dL_law_795 ?_
  refine V_if_eq 803 dL_law_796 (by decide) (fun h0 => ?_) (fun h0 => ?_)
  · refine V_iconst (v := 0) dL_law_803 (by decide) ?_
    refine V_aload_n dL_law_804 rfl ?_
    refine V_callSW wl_1 wl_3 wl_4 ms_L_112 dL_law_805 (ct_L_was hX hE hw0 hd0 hn hn60 hI.tok ho (xs (6 * i + 1)) (xs (6 * i + 2)) 0) rfl rfl (Nat.le_of_ble_eq_true rfl) (by decide) (by decide) (by omega) (by omega) (fun r1 ws1 hp1 => ?_)
    obtain ⟨hq, hc⟩ := c_was hI (xs (6 * i + 1)) (xs (6 * i + 2)) 0
    rcases hp1 with ⟨hok, rfl, rfl⟩ | ⟨hok, rfl, rfl⟩
    · have hw1 : WF E ad el g (ws.set 46 (oa, .inl (cJ E, 1, .inr (.inl (vp_updL f (0 : Int32).toNatClampNeg (wasV T (xs (6 * i + 1)) (xs (6 * i + 2)) 0).toInt64))))) (ws.set 46 (oa, .inl (cJ E, 1, .inr (.inl (vp_updL f (0 : Int32).toNatClampNeg (wasV T (xs (6 * i + 1)) (xs (6 * i + 2)) 0).toInt64))))) := ⟨Wd_out hw, Fr.rf⟩
      have hd1 := DY_out (f2 := vp_updL f (0 : Int32).toNatClampNeg (wasV T (xs (6 * i + 1)) (xs (6 * i + 2)) 0).toInt64) hd ho
      have ho1 := set_out (f2 := vp_updL f (0 : Int32).toNatClampNeg (wasV T (xs (6 * i + 1)) (xs (6 * i + 2)) 0).toInt64) ho
      rcases hc with ⟨_, ht, hv⟩ | ⟨hno, _⟩
      rotate_left
      · rw [hok] at hno
        cases hno
      refine V_istore dL_law_808 (by decide) ?_
      refine V_aload_n dL_law_810 rfl ?_
      refine V_aload_n dL_law_811 rfl ?_
      refine V_iload dL_law_812 rfl ?_
      refine V_iconst (v := 1) dL_law_814 (by decide) ?_
      refine V_iadd dL_law_815 ?_
      refine V_sld hSc (6 * i + 1) (nI_add (6 * i) 1) (by omega) (by omega) dL_law_816 ?_
      refine V_aload_n dL_law_817 rfl ?_
      refine V_iload dL_law_818 rfl ?_
      refine V_iconst (v := 2) dL_law_820 (by decide) ?_
      refine V_iadd dL_law_821 ?_
      refine V_sld hSc (6 * i + 2) (nI_add (6 * i) 2) (by omega) (by omega) dL_law_822 ?_
      refine V_aload_n dL_law_823 rfl ?_
      refine V_iload dL_law_824 rfl ?_
      refine V_iconst (v := 3) dL_law_826 (by decide) ?_
      refine V_iadd dL_law_827 ?_
      refine V_sld hSc (6 * i + 3) (nI_add (6 * i) 3) (by omega) (by omega) dL_law_828 ?_
      refine V_if_eq 836 dL_law_829 (by decide) (fun _ => ?_) (fun h1 => absurd h0 h1)
      refine V_iconst (v := 0) dL_law_836 (by decide) ?_
      refine V_callV (25) mw_X8_was mv_L_117 dL_law_837 (ct_X8_was hw1.1 hr.1.2.2.2.2.1 hn60 hr.2.2.2.2 (xs (6 * i + 1)) (xs (6 * i + 2)) 0) hw1.p25 rfl rfl rfl (Nat.le_of_ble_eq_true rfl) (by decide) (by decide) (by omega) (by omega) (fun r2 ws2 hp2 => ?_)
      obtain ⟨rfl, hw2⟩ := hp2
      refine V_istore dL_law_840 (by decide) ?_
      refine V_aload_n dL_law_842 rfl ?_
      refine V_callV (25) mw_X8_thrown mv_L_118 dL_law_843 (ct_X8_thrown hw2) hw2.p25 rfl rfl rfl (Nat.le_of_ble_eq_true rfl) (by decide) (by decide) (by omega) (by omega) (fun r3 ws3 hp3 => ?_)
      obtain ⟨rfl, rfl⟩ := hp3
      refine V_iload dL_law_846 rfl ?_
      refine V_icmp_eq 853 dL_law_848 (by decide) (fun _ => ?_) (fun h => absurd ht h)
      refine V_iload dL_law_853 rfl ?_
      refine V_if_ne 870 dL_law_855 (by decide) (fun h => absurd rfl h) (fun _ => ?_)
      refine V_aload_n dL_law_858 rfl ?_
      refine V_iconst (v := 0) dL_law_859 (by decide) ?_
      refine V_lald 46 dL_law_860 ((hw2.2.2 46 (by decide)).trans ho1) (show vp_in (nI 0) 1 from vp_in_nI (by decide) (by decide)) ?_
      refine V_iload dL_law_861 rfl ?_
      refine V_i2l dL_law_863 ?_
      refine V_lcmpE (by rw [pk_uLs, hv]) dL_law_864 ?_
      refine V_if_eq 870 dL_law_865 (by decide) (fun _ => ?_) (fun h => absurd rfl h)
      refine V_goto 923 dL_law_870 (by decide) ?_
      exact K _ _ _ _ _ ⟨el, _, T, n, _, hw2.1, hd1.fr hw2.2, (hw2.2.2 46 (by decide)).trans ho1, hI.iv hq⟩ (by omega) (by omega)
    · have hw1 := hw0
      have hd1 := hd
      have ho1 := ho
      rcases hc with ⟨hno, _⟩ | ⟨_, ht⟩
      · rw [hok] at hno
        cases hno
      refine V_istore dL_law_808 (by decide) ?_
      refine V_aload_n dL_law_810 rfl ?_
      refine V_aload_n dL_law_811 rfl ?_
      refine V_iload dL_law_812 rfl ?_
      refine V_iconst (v := 1) dL_law_814 (by decide) ?_
      refine V_iadd dL_law_815 ?_
      refine V_sld hSc (6 * i + 1) (nI_add (6 * i) 1) (by omega) (by omega) dL_law_816 ?_
      refine V_aload_n dL_law_817 rfl ?_
      refine V_iload dL_law_818 rfl ?_
      refine V_iconst (v := 2) dL_law_820 (by decide) ?_
      refine V_iadd dL_law_821 ?_
      refine V_sld hSc (6 * i + 2) (nI_add (6 * i) 2) (by omega) (by omega) dL_law_822 ?_
      refine V_aload_n dL_law_823 rfl ?_
      refine V_iload dL_law_824 rfl ?_
      refine V_iconst (v := 3) dL_law_826 (by decide) ?_
      refine V_iadd dL_law_827 ?_
      refine V_sld hSc (6 * i + 3) (nI_add (6 * i) 3) (by omega) (by omega) dL_law_828 ?_
      refine V_if_eq 836 dL_law_829 (by decide) (fun _ => ?_) (fun h1 => absurd h0 h1)
      refine V_iconst (v := 0) dL_law_836 (by decide) ?_
      refine V_callV (25) mw_X8_was mv_L_117 dL_law_837 (ct_X8_was hw1.1 hr.1.2.2.2.2.1 hn60 hr.2.2.2.2 (xs (6 * i + 1)) (xs (6 * i + 2)) 0) hw1.p25 rfl rfl rfl (Nat.le_of_ble_eq_true rfl) (by decide) (by decide) (by omega) (by omega) (fun r2 ws2 hp2 => ?_)
      obtain ⟨rfl, hw2⟩ := hp2
      refine V_istore dL_law_840 (by decide) ?_
      refine V_aload_n dL_law_842 rfl ?_
      refine V_callV (25) mw_X8_thrown mv_L_118 dL_law_843 (ct_X8_thrown hw2) hw2.p25 rfl rfl rfl (Nat.le_of_ble_eq_true rfl) (by decide) (by decide) (by omega) (by omega) (fun r3 ws3 hp3 => ?_)
      obtain ⟨rfl, rfl⟩ := hp3
      refine V_iload dL_law_846 rfl ?_
      refine V_icmp_eq 853 dL_law_848 (by decide) (fun _ => ?_) (fun h => absurd ht h)
      refine V_iload dL_law_853 rfl ?_
      refine V_if_ne 870 dL_law_855 (by decide) (fun _ => ?_) (fun h => absurd h (by decide))
      refine V_goto 923 dL_law_870 (by decide) ?_
      exact K _ _ _ _ _ ⟨el, _, T, n, _, hw2.1, hd1.fr hw2.2, (hw2.2.2 46 (by decide)).trans ho1, hI.iv hq⟩ (by omega) (by omega)
  · refine V_iconst (v := 1) dL_law_799 (by decide) ?_
    refine V_goto 804 dL_law_800 (by decide) ?_
    refine V_aload_n dL_law_804 rfl ?_
    refine V_callSW wl_1 wl_3 wl_4 ms_L_112 dL_law_805 (ct_L_was hX hE hw0 hd0 hn hn60 hI.tok ho (xs (6 * i + 1)) (xs (6 * i + 2)) 1) rfl rfl (Nat.le_of_ble_eq_true rfl) (by decide) (by decide) (by omega) (by omega) (fun r1 ws1 hp1 => ?_)
    obtain ⟨hq, hc⟩ := c_was hI (xs (6 * i + 1)) (xs (6 * i + 2)) 1
    rcases hp1 with ⟨hok, rfl, rfl⟩ | ⟨hok, rfl, rfl⟩
    · have hw1 : WF E ad el g (ws.set 46 (oa, .inl (cJ E, 1, .inr (.inl (vp_updL f (0 : Int32).toNatClampNeg (wasV T (xs (6 * i + 1)) (xs (6 * i + 2)) 1).toInt64))))) (ws.set 46 (oa, .inl (cJ E, 1, .inr (.inl (vp_updL f (0 : Int32).toNatClampNeg (wasV T (xs (6 * i + 1)) (xs (6 * i + 2)) 1).toInt64))))) := ⟨Wd_out hw, Fr.rf⟩
      have hd1 := DY_out (f2 := vp_updL f (0 : Int32).toNatClampNeg (wasV T (xs (6 * i + 1)) (xs (6 * i + 2)) 1).toInt64) hd ho
      have ho1 := set_out (f2 := vp_updL f (0 : Int32).toNatClampNeg (wasV T (xs (6 * i + 1)) (xs (6 * i + 2)) 1).toInt64) ho
      rcases hc with ⟨_, ht, hv⟩ | ⟨hno, _⟩
      rotate_left
      · rw [hok] at hno
        cases hno
      refine V_istore dL_law_808 (by decide) ?_
      refine V_aload_n dL_law_810 rfl ?_
      refine V_aload_n dL_law_811 rfl ?_
      refine V_iload dL_law_812 rfl ?_
      refine V_iconst (v := 1) dL_law_814 (by decide) ?_
      refine V_iadd dL_law_815 ?_
      refine V_sld hSc (6 * i + 1) (nI_add (6 * i) 1) (by omega) (by omega) dL_law_816 ?_
      refine V_aload_n dL_law_817 rfl ?_
      refine V_iload dL_law_818 rfl ?_
      refine V_iconst (v := 2) dL_law_820 (by decide) ?_
      refine V_iadd dL_law_821 ?_
      refine V_sld hSc (6 * i + 2) (nI_add (6 * i) 2) (by omega) (by omega) dL_law_822 ?_
      refine V_aload_n dL_law_823 rfl ?_
      refine V_iload dL_law_824 rfl ?_
      refine V_iconst (v := 3) dL_law_826 (by decide) ?_
      refine V_iadd dL_law_827 ?_
      refine V_sld hSc (6 * i + 3) (nI_add (6 * i) 3) (by omega) (by omega) dL_law_828 ?_
      refine V_if_eq 836 dL_law_829 (by decide) (fun h1 => absurd h1 h0) (fun _ => ?_)
      refine V_iconst (v := 1) dL_law_832 (by decide) ?_
      refine V_goto 837 dL_law_833 (by decide) ?_
      refine V_callV (25) mw_X8_was mv_L_117 dL_law_837 (ct_X8_was hw1.1 hr.1.2.2.2.2.1 hn60 hr.2.2.2.2 (xs (6 * i + 1)) (xs (6 * i + 2)) 1) hw1.p25 rfl rfl rfl (Nat.le_of_ble_eq_true rfl) (by decide) (by decide) (by omega) (by omega) (fun r2 ws2 hp2 => ?_)
      obtain ⟨rfl, hw2⟩ := hp2
      refine V_istore dL_law_840 (by decide) ?_
      refine V_aload_n dL_law_842 rfl ?_
      refine V_callV (25) mw_X8_thrown mv_L_118 dL_law_843 (ct_X8_thrown hw2) hw2.p25 rfl rfl rfl (Nat.le_of_ble_eq_true rfl) (by decide) (by decide) (by omega) (by omega) (fun r3 ws3 hp3 => ?_)
      obtain ⟨rfl, rfl⟩ := hp3
      refine V_iload dL_law_846 rfl ?_
      refine V_icmp_eq 853 dL_law_848 (by decide) (fun _ => ?_) (fun h => absurd ht h)
      refine V_iload dL_law_853 rfl ?_
      refine V_if_ne 870 dL_law_855 (by decide) (fun h => absurd rfl h) (fun _ => ?_)
      refine V_aload_n dL_law_858 rfl ?_
      refine V_iconst (v := 0) dL_law_859 (by decide) ?_
      refine V_lald 46 dL_law_860 ((hw2.2.2 46 (by decide)).trans ho1) (show vp_in (nI 0) 1 from vp_in_nI (by decide) (by decide)) ?_
      refine V_iload dL_law_861 rfl ?_
      refine V_i2l dL_law_863 ?_
      refine V_lcmpE (by rw [pk_uLs, hv]) dL_law_864 ?_
      refine V_if_eq 870 dL_law_865 (by decide) (fun _ => ?_) (fun h => absurd rfl h)
      refine V_goto 923 dL_law_870 (by decide) ?_
      exact K _ _ _ _ _ ⟨el, _, T, n, _, hw2.1, hd1.fr hw2.2, (hw2.2.2 46 (by decide)).trans ho1, hI.iv hq⟩ (by omega) (by omega)
    · have hw1 := hw0
      have hd1 := hd
      have ho1 := ho
      rcases hc with ⟨hno, _⟩ | ⟨_, ht⟩
      · rw [hok] at hno
        cases hno
      refine V_istore dL_law_808 (by decide) ?_
      refine V_aload_n dL_law_810 rfl ?_
      refine V_aload_n dL_law_811 rfl ?_
      refine V_iload dL_law_812 rfl ?_
      refine V_iconst (v := 1) dL_law_814 (by decide) ?_
      refine V_iadd dL_law_815 ?_
      refine V_sld hSc (6 * i + 1) (nI_add (6 * i) 1) (by omega) (by omega) dL_law_816 ?_
      refine V_aload_n dL_law_817 rfl ?_
      refine V_iload dL_law_818 rfl ?_
      refine V_iconst (v := 2) dL_law_820 (by decide) ?_
      refine V_iadd dL_law_821 ?_
      refine V_sld hSc (6 * i + 2) (nI_add (6 * i) 2) (by omega) (by omega) dL_law_822 ?_
      refine V_aload_n dL_law_823 rfl ?_
      refine V_iload dL_law_824 rfl ?_
      refine V_iconst (v := 3) dL_law_826 (by decide) ?_
      refine V_iadd dL_law_827 ?_
      refine V_sld hSc (6 * i + 3) (nI_add (6 * i) 3) (by omega) (by omega) dL_law_828 ?_
      refine V_if_eq 836 dL_law_829 (by decide) (fun h1 => absurd h1 h0) (fun _ => ?_)
      refine V_iconst (v := 1) dL_law_832 (by decide) ?_
      refine V_goto 837 dL_law_833 (by decide) ?_
      refine V_callV (25) mw_X8_was mv_L_117 dL_law_837 (ct_X8_was hw1.1 hr.1.2.2.2.2.1 hn60 hr.2.2.2.2 (xs (6 * i + 1)) (xs (6 * i + 2)) 1) hw1.p25 rfl rfl rfl (Nat.le_of_ble_eq_true rfl) (by decide) (by decide) (by omega) (by omega) (fun r2 ws2 hp2 => ?_)
      obtain ⟨rfl, hw2⟩ := hp2
      refine V_istore dL_law_840 (by decide) ?_
      refine V_aload_n dL_law_842 rfl ?_
      refine V_callV (25) mw_X8_thrown mv_L_118 dL_law_843 (ct_X8_thrown hw2) hw2.p25 rfl rfl rfl (Nat.le_of_ble_eq_true rfl) (by decide) (by decide) (by omega) (by omega) (fun r3 ws3 hp3 => ?_)
      obtain ⟨rfl, rfl⟩ := hp3
      refine V_iload dL_law_846 rfl ?_
      refine V_icmp_eq 853 dL_law_848 (by decide) (fun _ => ?_) (fun h => absurd ht h)
      refine V_iload dL_law_853 rfl ?_
      refine V_if_ne 870 dL_law_855 (by decide) (fun _ => ?_) (fun h => absurd h (by decide))
      refine V_goto 923 dL_law_870 (by decide) ?_
      exact K _ _ _ _ _ ⟨el, _, T, n, _, hw2.1, hd1.fr hw2.2, (hw2.2.2 46 (by decide)).trans ho1, hI.iv hq⟩ (by omega) (by omega)
end LAW5
