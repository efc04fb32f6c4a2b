/-! ===== the law's cases: giveUp, blame, runs, told, brought, count ===== -/
section LAW3
variable {E : VE} {ad : Nat → Nat} {tE mi s1 s2 b len : Nat} {xs : Nat → Int32} {oa : Nat} {nm ds : String} {ws : va_W} {i cl sl : Nat} {z5 z6 : Option Value} {post : Option Value → va_W → Prop}
set_option maxHeartbeats 4000000 in
set_option maxRecDepth 20000 in
theorem lc_15 (hE : GH E tE mi) (hX : GX E s1 s2) (hSc : SC E b len xs) (hlen : len ≤ 3072) (hi : 6 * i + 6 ≤ len) (hcl : cl + 5 ≤ 601024) (hsl : sl + 144 ≤ 7293034) (hS : LWS E ad tE oa ws) (K : KNX E ad nm ds tE b oa i cl sl post) : V E (yW nm ds) cL_law 7 (some .boolean) 2048 601024 7293034 post 599 [some (.ref b), some (.ref (ad 0)), some (.ref (ad 25)), some (.ref oa), some (.int (nI (6 * i))), z5, z6] [] ws cl sl := by
  obtain ⟨el, g, T, n, f, hw, hd, ho, nP, nN, nT, nW, C, hI⟩ := hS
  have hC := hI.1
  have hP := hC.1.1
  have hP10 := hC.1.2.2
  have hN := hC.2.1.1
  have hN30 := hC.2.1.2.2
  have hT := hC.2.2.1.1
  have hT12 := hC.2.2.1.2.2
  have hW := hC.2.2.2.1.1
  have hW60 := hC.2.2.2.1.2.2
  have hn := hC.2.2.2.2.1
  have hn60 := hC.2.2.2.2.2.2
  have hnok := hI.2.1.2.1.nok hP10
  have hw0 : WF E ad el g ws ws := ⟨hw, Fr.rf⟩
  refine V_aload_n dL_law_599 rfl ?_
  refine V_callV (0) mw_X7_giveUp mv_L_85 dL_law_600 (ct_X7_giveUp hw hP hP10) hw0.p0 rfl rfl rfl (Nat.le_of_ble_eq_true rfl) (by decide) (by decide) (by omega) (by omega) (fun r1 ws1 hp1 => ?_)
  obtain ⟨rfl, hw1⟩ := hp1
  have hr := hI.rfs (kr_giveUp nP)
  refine V_aload_n dL_law_603 rfl ?_
  refine V_callV (25) mw_X8_giveUp mv_L_89 dL_law_604 (ct_X8_giveUp hw1.1 hr.1.1 hP10) hw1.p25 rfl rfl rfl (Nat.le_of_ble_eq_true rfl) (by decide) (by decide) (by omega) (by omega) (fun r2 ws2 hp2 => ?_)
  obtain ⟨rfl, hw2⟩ := hp2
  have hc := c_giveUp hI 
  refine V_icmp_eq 923 dL_law_607 (by decide) (fun _ => ?_) (fun h => absurd hc.1 h)
  exact K _ _ _ _ _ ⟨el, _, T, n, f, hw2.1, (hd.fr hw1.2).fr hw2.2, (hw2.2.2 46 (by decide)).trans ((hw1.2.2 46 (by decide)).trans ho), hc.2⟩ (by omega) (by omega)
set_option maxHeartbeats 4000000 in
set_option maxRecDepth 20000 in
theorem lc_18 (hE : GH E tE mi) (hX : GX E s1 s2) (hSc : SC E b len xs) (hlen : len ≤ 3072) (hi : 6 * i + 6 ≤ len) (hcl : cl + 5 ≤ 601024) (hsl : sl + 144 ≤ 7293034) (hS : LWS E ad tE oa ws) (K : KNX E ad nm ds tE b oa i cl sl post) : V E (yW nm ds) cL_law 7 (some .boolean) 2048 601024 7293034 post 690 [some (.ref b), some (.ref (ad 0)), some (.ref (ad 25)), some (.ref oa), some (.int (nI (6 * i))), z5, z6] [] ws cl sl := by
  obtain ⟨el, g, T, n, f, hw, hd, ho, nP, nN, nT, nW, C, hI⟩ := hS
  have hC := hI.1
  have hP := hC.1.1
  have hP10 := hC.1.2.2
  have hN := hC.2.1.1
  have hN30 := hC.2.1.2.2
  have hT := hC.2.2.1.1
  have hT12 := hC.2.2.1.2.2
  have hW := hC.2.2.2.1.1
  have hW60 := hC.2.2.2.1.2.2
  have hn := hC.2.2.2.2.1
  have hn60 := hC.2.2.2.2.2.2
  have hnok := hI.2.1.2.1.nok hP10
  have hw0 : WF E ad el g ws ws := ⟨hw, Fr.rf⟩
  refine V_aload_n dL_law_690 rfl ?_
  refine V_aload_n dL_law_691 rfl ?_
  refine V_iload dL_law_692 rfl ?_
  refine V_iconst (v := 1) dL_law_694 (by decide) ?_
  refine V_iadd dL_law_695 ?_
  refine V_sld hSc (6 * i + 1) (nI_add (6 * i) 1) (by omega) (by omega) dL_law_696 ?_
  refine V_callV (0) mw_X7_blame mv_L_99 dL_law_697 (ct_X7_blame hw hE.1 hP hP10 hT hT12 (nI_ex (g 20 0)).symm (xs (6 * i + 1))) hw0.p0 rfl rfl rfl (Nat.le_of_ble_eq_true rfl) (by decide) (by decide) (by omega) (by omega) (fun r1 ws1 hp1 => ?_)
  obtain ⟨rfl, hw1⟩ := hp1
  have hr := hI.rfs (kr_blame nT (xs (6 * i + 1)))
  refine V_aload_n dL_law_700 rfl ?_
  refine V_aload_n dL_law_701 rfl ?_
  refine V_iload dL_law_702 rfl ?_
  refine V_iconst (v := 1) dL_law_704 (by decide) ?_
  refine V_iadd dL_law_705 ?_
  refine V_sld hSc (6 * i + 1) (nI_add (6 * i) 1) (by omega) (by omega) dL_law_706 ?_
  refine V_callV (25) mw_X8_blame mv_L_102 dL_law_707 (ct_X8_blame hw1.1 hr.1.1 hP10 hr.1.2.2.1 hT12 (fun S hS _ => stp_all hP10 S hS) (xs (6 * i + 1))) hw1.p25 rfl rfl rfl (Nat.le_of_ble_eq_true rfl) (by decide) (by decide) (by omega) (by omega) (fun r2 ws2 hp2 => ?_)
  obtain ⟨rfl, hw2⟩ := hp2
  have hc := c_blame hI (xs (6 * i + 1))
  refine V_icmp_eq 923 dL_law_710 (by decide) (fun _ => ?_) (fun h => absurd hc.1 h)
  exact K _ _ _ _ _ ⟨el, _, T, n, f, hw2.1, (hd.fr hw1.2).fr hw2.2, (hw2.2.2 46 (by decide)).trans ((hw1.2.2 46 (by decide)).trans ho), hI.iv hc.2⟩ (by omega) (by omega)
set_option maxHeartbeats 4000000 in
set_option maxRecDepth 20000 in
theorem lc_19 (hE : GH E tE mi) (hX : GX E s1 s2) (hSc : SC E b len xs) (hlen : len ≤ 3072) (hi : 6 * i + 6 ≤ len) (hcl : cl + 5 ≤ 601024) (hsl : sl + 144 ≤ 7293034) (hS : LWS E ad tE oa ws) (K : KNX E ad nm ds tE b oa i cl sl post) : V E (yW nm ds) cL_law 7 (some .boolean) 2048 601024 7293034 post 715 [some (.ref b), some (.ref (ad 0)), some (.ref (ad 25)), some (.ref oa), some (.int (nI (6 * i))), z5, z6] [] ws cl sl := by
  obtain ⟨el, g, T, n, f, hw, hd, ho, nP, nN, nT, nW, C, hI⟩ := hS
  have hC := hI.1
  have hP := hC.1.1
  have hP10 := hC.1.2.2
  have hN := hC.2.1.1
  have hN30 := hC.2.1.2.2
  have hT := hC.2.2.1.1
  have hT12 := hC.2.2.1.2.2
  have hW := hC.2.2.2.1.1
  have hW60 := hC.2.2.2.1.2.2
  have hn := hC.2.2.2.2.1
  have hn60 := hC.2.2.2.2.2.2
  have hnok := hI.2.1.2.1.nok hP10
  have hw0 : WF E ad el g ws ws := ⟨hw, Fr.rf⟩
  refine V_aload_n dL_law_715 rfl ?_
  refine V_aload_n dL_law_716 rfl ?_
  refine V_iload dL_law_717 rfl ?_
  refine V_iconst (v := 1) dL_law_719 (by decide) ?_
  refine V_iadd dL_law_720 ?_
  refine V_sld hSc (6 * i + 1) (nI_add (6 * i) 1) (by omega) (by omega) dL_law_721 ?_
  refine V_callV (0) mw_X7_runs mv_L_103 dL_law_722 (ct_X7_runs hw hE.1 hP hP10 hT hT12 (nI_ex (g 20 0)).symm (xs (6 * i + 1))) hw0.p0 rfl rfl rfl (Nat.le_of_ble_eq_true rfl) (by decide) (by decide) (by omega) (by omega) (fun r1 ws1 hp1 => ?_)
  obtain ⟨rfl, hw1⟩ := hp1
  have hr := hI.rfs (kr_runs nT (xs (6 * i + 1)))
  refine V_aload_n dL_law_725 rfl ?_
  refine V_aload_n dL_law_726 rfl ?_
  refine V_iload dL_law_727 rfl ?_
  refine V_iconst (v := 1) dL_law_729 (by decide) ?_
  refine V_iadd dL_law_730 ?_
  refine V_sld hSc (6 * i + 1) (nI_add (6 * i) 1) (by omega) (by omega) dL_law_731 ?_
  refine V_callV (25) mw_X8_runs mv_L_106 dL_law_732 (ct_X8_runs hw1.1 hr.1.1 hP10 hr.1.2.2.1 hT12 (fun S hS _ => stp_all hP10 S hS) (xs (6 * i + 1))) hw1.p25 rfl rfl rfl (Nat.le_of_ble_eq_true rfl) (by decide) (by decide) (by omega) (by omega) (fun r2 ws2 hp2 => ?_)
  obtain ⟨rfl, hw2⟩ := hp2
  have hc := c_runs hI (xs (6 * i + 1))
  refine V_icmp_eq 923 dL_law_735 (by decide) (fun _ => ?_) (fun h => absurd hc.1 h)
  exact K _ _ _ _ _ ⟨el, _, T, n, f, hw2.1, (hd.fr hw1.2).fr hw2.2, (hw2.2.2 46 (by decide)).trans ((hw1.2.2 46 (by decide)).trans ho), hI.iv hc.2⟩ (by omega) (by omega)
set_option maxHeartbeats 4000000 in
set_option maxRecDepth 20000 in
theorem lc_20 (hE : GH E tE mi) (hX : GX E s1 s2) (hSc : SC E b len xs) (hlen : len ≤ 3072) (hi : 6 * i + 6 ≤ len) (hcl : cl + 5 ≤ 601024) (hsl : sl + 144 ≤ 7293034) (hS : LWS E ad tE oa ws) (K : KNX E ad nm ds tE b oa i cl sl post) : V E (yW nm ds) cL_law 7 (some .boolean) 2048 601024 7293034 post 740 [some (.ref b), some (.ref (ad 0)), some (.ref (ad 25)), some (.ref oa), some (.int (nI (6 * i))), z5, z6] [] ws cl sl := by
  obtain ⟨el, g, T, n, f, hw, hd, ho, nP, nN, nT, nW, C, hI⟩ := hS
  have hC := hI.1
  have hP := hC.1.1
  have hP10 := hC.1.2.2
  have hN := hC.2.1.1
  have hN30 := hC.2.1.2.2
  have hT := hC.2.2.1.1
  have hT12 := hC.2.2.1.2.2
  have hW := hC.2.2.2.1.1
  have hW60 := hC.2.2.2.1.2.2
  have hn := hC.2.2.2.2.1
  have hn60 := hC.2.2.2.2.2.2
  have hnok := hI.2.1.2.1.nok hP10
  have hw0 : WF E ad el g ws ws := ⟨hw, Fr.rf⟩
  refine V_aload_n dL_law_740 rfl ?_
  refine V_aload_n dL_law_741 rfl ?_
  refine V_iload dL_law_742 rfl ?_
  refine V_iconst (v := 1) dL_law_744 (by decide) ?_
  refine V_iadd dL_law_745 ?_
  refine V_sld hSc (6 * i + 1) (nI_add (6 * i) 1) (by omega) (by omega) dL_law_746 ?_
  refine V_aload_n dL_law_747 rfl ?_
  refine V_iload dL_law_748 rfl ?_
  refine V_iconst (v := 2) dL_law_750 (by decide) ?_
  refine V_iadd dL_law_751 ?_
  refine V_sld hSc (6 * i + 2) (nI_add (6 * i) 2) (by omega) (by omega) dL_law_752 ?_
  refine V_callV (0) mw_X7_told mv_L_107 dL_law_753 (ct_X7_told hw0 hP hP10 (xs (6 * i + 1)) (xs (6 * i + 2))) hw0.p0 rfl rfl rfl (Nat.le_of_ble_eq_true rfl) (by decide) (by decide) (by omega) (by omega) (fun r1 ws1 hp1 => ?_)
  obtain ⟨rfl, rfl⟩ := hp1
  have hr := hI.rfs (KR.rf g)
  refine V_aload_n dL_law_756 rfl ?_
  refine V_aload_n dL_law_757 rfl ?_
  refine V_iload dL_law_758 rfl ?_
  refine V_iconst (v := 1) dL_law_760 (by decide) ?_
  refine V_iadd dL_law_761 ?_
  refine V_sld hSc (6 * i + 1) (nI_add (6 * i) 1) (by omega) (by omega) dL_law_762 ?_
  refine V_aload_n dL_law_763 rfl ?_
  refine V_iload dL_law_764 rfl ?_
  refine V_iconst (v := 2) dL_law_766 (by decide) ?_
  refine V_iadd dL_law_767 ?_
  refine V_sld hSc (6 * i + 2) (nI_add (6 * i) 2) (by omega) (by omega) dL_law_768 ?_
  refine V_callV (25) mw_X8_told mv_L_111 dL_law_769 (ct_X8_told hw hr.1.1 hP10 (xs (6 * i + 1)) (xs (6 * i + 2))) hw0.p25 rfl rfl rfl (Nat.le_of_ble_eq_true rfl) (by decide) (by decide) (by omega) (by omega) (fun r2 ws2 hp2 => ?_)
  obtain ⟨rfl, hw2⟩ := hp2
  have hc := c_told hI (xs (6 * i + 1)) (xs (6 * i + 2))
  refine V_icmp_eq 923 dL_law_772 (by decide) (fun _ => ?_) (fun h => absurd hc.1 h)
  exact K _ _ _ _ _ ⟨el, _, T, n, f, hw2.1, hd.fr hw2.2, (hw2.2.2 46 (by decide)).trans ho, hI.iv hc.2⟩ (by omega) (by omega)
set_option maxHeartbeats 4000000 in
set_option maxRecDepth 20000 in
theorem lc_22 (hE : GH E tE mi) (hX : GX E s1 s2) (hSc : SC E b len xs) (hlen : len ≤ 3072) (hi : 6 * i + 6 ≤ len) (hcl : cl + 5 ≤ 601024) (hsl : sl + 144 ≤ 7293034) (hS : LWS E ad tE oa ws) (K : KNX E ad nm ds tE b oa i cl sl post) : V E (yW nm ds) cL_law 7 (some .boolean) 2048 601024 7293034 post 873 [some (.ref b), some (.ref (ad 0)), some (.ref (ad 25)), some (.ref oa), some (.int (nI (6 * i))), z5, z6] [] ws cl sl := by
  obtain ⟨el, g, T, n, f, hw, hd, ho, nP, nN, nT, nW, C, hI⟩ := hS
  have hC := hI.1
  have hP := hC.1.1
  have hP10 := hC.1.2.2
  have hN := hC.2.1.1
  have hN30 := hC.2.1.2.2
  have hT := hC.2.2.1.1
  have hT12 := hC.2.2.1.2.2
  have hW := hC.2.2.2.1.1
  have hW60 := hC.2.2.2.1.2.2
  have hn := hC.2.2.2.2.1
  have hn60 := hC.2.2.2.2.2.2
  have hnok := hI.2.1.2.1.nok hP10
  have hw0 : WF E ad el g ws ws := ⟨hw, Fr.rf⟩
  obtain ⟨tb, xa, xo, xb, qe, cap, fe, hd0⟩ := id hd
  refine V_aload_n dL_law_873 rfl ?_
  refine V_aload_n dL_law_874 rfl ?_
  refine V_iload dL_law_875 rfl ?_
  refine V_iconst (v := 1) dL_law_877 (by decide) ?_
  refine V_iadd dL_law_878 ?_
  refine V_sld hSc (6 * i + 1) (nI_add (6 * i) 1) (by omega) (by omega) dL_law_879 ?_
  refine V_callV (0) mw_X7_brought mv_L_121 dL_law_880 (ct_X7_brought hE hw0 hd0 hn hn60 (xs (6 * i + 1))) hw0.p0 rfl rfl rfl (Nat.le_of_ble_eq_true rfl) (by decide) (by decide) (by omega) (by omega) (fun r1 ws1 hp1 => ?_)
  obtain ⟨rfl, rfl⟩ := hp1
  have hr := hI.rfs (KR.rf g)
  refine V_aload_n dL_law_883 rfl ?_
  refine V_aload_n dL_law_884 rfl ?_
  refine V_iload dL_law_885 rfl ?_
  refine V_iconst (v := 1) dL_law_887 (by decide) ?_
  refine V_iadd dL_law_888 ?_
  refine V_sld hSc (6 * i + 1) (nI_add (6 * i) 1) (by omega) (by omega) dL_law_889 ?_
  refine V_callV (25) mw_X8_brought mv_L_124 dL_law_890 (ct_X8_brought hw hr.1.2.2.2.2.1 hn60 (xs (6 * i + 1))) hw0.p25 rfl rfl rfl (Nat.le_of_ble_eq_true rfl) (by decide) (by decide) (by omega) (by omega) (fun r2 ws2 hp2 => ?_)
  obtain ⟨rfl, hw2⟩ := hp2
  have hc := c_brought hI (xs (6 * i + 1))
  refine V_icmp_eq 923 dL_law_893 (by decide) (fun _ => ?_) (fun h => absurd hc.1 h)
  exact K _ _ _ _ _ ⟨el, _, T, n, f, hw2.1, hd.fr hw2.2, (hw2.2.2 46 (by decide)).trans ho, hI.iv hc.2⟩ (by omega) (by omega)
set_option maxHeartbeats 4000000 in
set_option maxRecDepth 20000 in
theorem lc_23 (hE : GH E tE mi) (hX : GX E s1 s2) (hSc : SC E b len xs) (hlen : len ≤ 3072) (hi : 6 * i + 6 ≤ len) (hcl : cl + 5 ≤ 601024) (hsl : sl + 144 ≤ 7293034) (hS : LWS E ad tE oa ws) (K : KNX E ad nm ds tE b oa i cl sl post) : V E (yW nm ds) cL_law 7 (some .boolean) 2048 601024 7293034 post 898 [some (.ref b), some (.ref (ad 0)), some (.ref (ad 25)), some (.ref oa), some (.int (nI (6 * i))), z5, z6] [] ws cl sl := by
  obtain ⟨el, g, T, n, f, hw, hd, ho, nP, nN, nT, nW, C, hI⟩ := hS
  have hC := hI.1
  have hP := hC.1.1
  have hP10 := hC.1.2.2
  have hN := hC.2.1.1
  have hN30 := hC.2.1.2.2
  have hT := hC.2.2.1.1
  have hT12 := hC.2.2.1.2.2
  have hW := hC.2.2.2.1.1
  have hW60 := hC.2.2.2.1.2.2
  have hn := hC.2.2.2.2.1
  have hn60 := hC.2.2.2.2.2.2
  have hnok := hI.2.1.2.1.nok hP10
  have hw0 : WF E ad el g ws ws := ⟨hw, Fr.rf⟩
  obtain ⟨tb, xa, xo, xb, qe, cap, fe, hd0⟩ := id hd
  refine V_aload_n dL_law_898 rfl ?_
  refine V_aload_n dL_law_899 rfl ?_
  refine V_iload dL_law_900 rfl ?_
  refine V_iconst (v := 1) dL_law_902 (by decide) ?_
  refine V_iadd dL_law_903 ?_
  refine V_sld hSc (6 * i + 1) (nI_add (6 * i) 1) (by omega) (by omega) dL_law_904 ?_
  refine V_callV (0) mw_X7_count mv_L_125 dL_law_905 (ct_X7_count hE hw hd0 hn hn60 hN hN30 hnok (xs (6 * i + 1))) hw0.p0 rfl rfl rfl (Nat.le_of_ble_eq_true rfl) (by decide) (by decide) (by omega) (by omega) (fun r1 ws1 hp1 => ?_)
  obtain ⟨rfl, hw1⟩ := hp1
  have hr := hI.rfs (kr_count (T := T) nN n (xs (6 * i + 1)))
  refine V_aload_n dL_law_908 rfl ?_
  refine V_aload_n dL_law_909 rfl ?_
  refine V_iload dL_law_910 rfl ?_
  refine V_iconst (v := 1) dL_law_912 (by decide) ?_
  refine V_iadd dL_law_913 ?_
  refine V_sld hSc (6 * i + 1) (nI_add (6 * i) 1) (by omega) (by omega) dL_law_914 ?_
  refine V_callV (25) mw_X8_count mv_L_128 dL_law_915 (ct_X8_count hw1.1 hr.1.1 hP10 hr.1.2.1 hN30 hr.2.1 hr.1.2.2.2.2.1 hn60 (xs (6 * i + 1))) hw1.p25 rfl rfl rfl (Nat.le_of_ble_eq_true rfl) (by decide) (by decide) (by omega) (by omega) (fun r2 ws2 hp2 => ?_)
  obtain ⟨rfl, hw2⟩ := hp2
  have hc := c_count hI (xs (6 * i + 1))
  refine V_icmp_eq 923 dL_law_918 (by decide) (fun _ => ?_) (fun h => absurd hc.1 h)
  exact K _ _ _ _ _ ⟨el, _, T, n, f, hw2.1, (hd.fr hw1.2).fr hw2.2, (hw2.2.2 46 (by decide)).trans ((hw1.2.2 46 (by decide)).trans ho), hI.iv hc.2⟩ (by omega) (by omega)
end LAW3
