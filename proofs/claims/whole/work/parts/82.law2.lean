/-! ===== the law's cases: red, cut, chosen, worth, why, fix, leave ===== -/
section LAW2
variable {E : VE} {ad : Nat → Nat} {tE mi s1 s2 b len : Nat} {xs : Nat → Int32} {oa : Nat} {nm ds : String} {ws : va_W} {i cl sl : Nat} {z5 z6 : Option Value} {post : Option Value → va_W → Prop}
set_option maxHeartbeats 4000000 in
set_option maxRecDepth 20000 in
theorem lc_6 (hE : GH E tE mi) (hX : GX E s1 s2) (hSc : SC E b len xs) (hlen : len ≤ 3072) (hi : 6 * i + 6 ≤ len) (hcl : cl + 5 ≤ 601024) (hsl : sl + 144 ≤ 7293034) (hS : LWS E ad tE oa ws) (K : KNX E ad nm ds tE b oa i cl sl post) : V E (yW nm ds) cL_law 7 (some .boolean) 2048 601024 7293034 post 374 [some (.ref b), some (.ref (ad 0)), some (.ref (ad 25)), some (.ref oa), some (.int (nI (6 * i))), z5, z6] [] ws cl sl := by
  obtain ⟨el, g, T, n, f, hw, hd, ho, nP, nN, nT, nW, C, hI⟩ := hS
  have hC := hI.1
  have hP := hC.1.1
  have hP10 := hC.1.2.2
  have hN := hC.2.1.1
  have hN30 := hC.2.1.2.2
  have hT := hC.2.2.1.1
  have hT12 := hC.2.2.1.2.2
  have hW := hC.2.2.2.1.1
  have hW60 := hC.2.2.2.1.2.2
  have hn := hC.2.2.2.2.1
  have hn60 := hC.2.2.2.2.2.2
  have hnok := hI.2.1.2.1.nok hP10
  have hw0 : WF E ad el g ws ws := ⟨hw, Fr.rf⟩
  refine V_aload_n dL_law_374 rfl ?_
  refine V_aload_n dL_law_375 rfl ?_
  refine V_iload dL_law_376 rfl ?_
  refine V_iconst (v := 1) dL_law_378 (by decide) ?_
  refine V_iadd dL_law_379 ?_
  refine V_sld hSc (6 * i + 1) (nI_add (6 * i) 1) (by omega) (by omega) dL_law_380 ?_
  refine V_callV (0) mw_X7_red mv_L_47 dL_law_381 (ct_X7_red hw0 hT hT12 (xs (6 * i + 1))) hw0.p0 rfl rfl rfl (Nat.le_of_ble_eq_true rfl) (by decide) (by decide) (by omega) (by omega) (fun r1 ws1 hp1 => ?_)
  obtain ⟨rfl, rfl⟩ := hp1
  have hr := hI.rfs (KR.rf g)
  refine V_aload_n dL_law_384 rfl ?_
  refine V_aload_n dL_law_385 rfl ?_
  refine V_iload dL_law_386 rfl ?_
  refine V_iconst (v := 1) dL_law_388 (by decide) ?_
  refine V_iadd dL_law_389 ?_
  refine V_sld hSc (6 * i + 1) (nI_add (6 * i) 1) (by omega) (by omega) dL_law_390 ?_
  refine V_callV (25) mw_X8_red mv_L_50 dL_law_391 (ct_X8_red hw hr.1.2.2.1 hT12 (xs (6 * i + 1))) hw0.p25 rfl rfl rfl (Nat.le_of_ble_eq_true rfl) (by decide) (by decide) (by omega) (by omega) (fun r2 ws2 hp2 => ?_)
  obtain ⟨rfl, hw2⟩ := hp2
  have hc := c_red hI (xs (6 * i + 1))
  refine V_icmp_eq 923 dL_law_394 (by decide) (fun _ => ?_) (fun h => absurd hc.1 h)
  exact K _ _ _ _ _ ⟨el, _, T, n, f, hw2.1, hd.fr hw2.2, (hw2.2.2 46 (by decide)).trans ho, hI.iv hc.2⟩ (by omega) (by omega)
set_option maxHeartbeats 4000000 in
set_option maxRecDepth 20000 in
theorem lc_7 (hE : GH E tE mi) (hX : GX E s1 s2) (hSc : SC E b len xs) (hlen : len ≤ 3072) (hi : 6 * i + 6 ≤ len) (hcl : cl + 5 ≤ 601024) (hsl : sl + 144 ≤ 7293034) (hS : LWS E ad tE oa ws) (K : KNX E ad nm ds tE b oa i cl sl post) : V E (yW nm ds) cL_law 7 (some .boolean) 2048 601024 7293034 post 399 [some (.ref b), some (.ref (ad 0)), some (.ref (ad 25)), some (.ref oa), some (.int (nI (6 * i))), z5, z6] [] ws cl sl := by
  obtain ⟨el, g, T, n, f, hw, hd, ho, nP, nN, nT, nW, C, hI⟩ := hS
  have hC := hI.1
  have hP := hC.1.1
  have hP10 := hC.1.2.2
  have hN := hC.2.1.1
  have hN30 := hC.2.1.2.2
  have hT := hC.2.2.1.1
  have hT12 := hC.2.2.1.2.2
  have hW := hC.2.2.2.1.1
  have hW60 := hC.2.2.2.1.2.2
  have hn := hC.2.2.2.2.1
  have hn60 := hC.2.2.2.2.2.2
  have hnok := hI.2.1.2.1.nok hP10
  have hw0 : WF E ad el g ws ws := ⟨hw, Fr.rf⟩
  refine V_aload_n dL_law_399 rfl ?_
  refine V_callV (0) mw_X7_cut mv_L_51 dL_law_400 (ct_X7_cut hw hN hN30 hnok hT hT12) hw0.p0 rfl rfl rfl (Nat.le_of_ble_eq_true rfl) (by decide) (by decide) (by omega) (by omega) (fun r1 ws1 hp1 => ?_)
  obtain ⟨rfl, hw1⟩ := hp1
  have hr := hI.rfs (kr_cut nN nT)
  refine V_aload_n dL_law_403 rfl ?_
  refine V_callV (25) mw_X8_cut mv_L_55 dL_law_404 (ct_X8_cut hw1.1 hr.1.1 hP10 hr.1.2.1 hN30 hr.2.1 hr.1.2.2.1 hT12) hw1.p25 rfl rfl rfl (Nat.le_of_ble_eq_true rfl) (by decide) (by decide) (by omega) (by omega) (fun r2 ws2 hp2 => ?_)
  obtain ⟨rfl, hw2⟩ := hp2
  have hc := c_cut hI 
  refine V_icmp_eq 923 dL_law_407 (by decide) (fun _ => ?_) (fun h => absurd hc.1 h)
  exact K _ _ _ _ _ ⟨el, _, T, n, f, hw2.1, (hd.fr hw1.2).fr hw2.2, (hw2.2.2 46 (by decide)).trans ((hw1.2.2 46 (by decide)).trans ho), hc.2⟩ (by omega) (by omega)
set_option maxHeartbeats 4000000 in
set_option maxRecDepth 20000 in
theorem lc_8 (hE : GH E tE mi) (hX : GX E s1 s2) (hSc : SC E b len xs) (hlen : len ≤ 3072) (hi : 6 * i + 6 ≤ len) (hcl : cl + 5 ≤ 601024) (hsl : sl + 144 ≤ 7293034) (hS : LWS E ad tE oa ws) (K : KNX E ad nm ds tE b oa i cl sl post) : V E (yW nm ds) cL_law 7 (some .boolean) 2048 601024 7293034 post 412 [some (.ref b), some (.ref (ad 0)), some (.ref (ad 25)), some (.ref oa), some (.int (nI (6 * i))), z5, z6] [] ws cl sl := by
  obtain ⟨el, g, T, n, f, hw, hd, ho, nP, nN, nT, nW, C, hI⟩ := hS
  have hC := hI.1
  have hP := hC.1.1
  have hP10 := hC.1.2.2
  have hN := hC.2.1.1
  have hN30 := hC.2.1.2.2
  have hT := hC.2.2.1.1
  have hT12 := hC.2.2.1.2.2
  have hW := hC.2.2.2.1.1
  have hW60 := hC.2.2.2.1.2.2
  have hn := hC.2.2.2.2.1
  have hn60 := hC.2.2.2.2.2.2
  have hnok := hI.2.1.2.1.nok hP10
  have hw0 : WF E ad el g ws ws := ⟨hw, Fr.rf⟩
  refine V_aload_n dL_law_412 rfl ?_
  refine V_callV (0) mw_X7_chosen mv_L_56 dL_law_413 (ct_X7_chosen hw0) hw0.p0 rfl rfl rfl (Nat.le_of_ble_eq_true rfl) (by decide) (by decide) (by omega) (by omega) (fun r1 ws1 hp1 => ?_)
  obtain ⟨rfl, rfl⟩ := hp1
  have hr := hI.rfs (KR.rf g)
  refine V_aload_n dL_law_416 rfl ?_
  refine V_callV (25) mw_X8_chosen mv_L_59 dL_law_417 (ct_X8_chosen hw) hw0.p25 rfl rfl rfl (Nat.le_of_ble_eq_true rfl) (by decide) (by decide) (by omega) (by omega) (fun r2 ws2 hp2 => ?_)
  obtain ⟨rfl, hw2⟩ := hp2
  have hc := c_chosen hI 
  refine V_icmp_eq 923 dL_law_420 (by decide) (fun _ => ?_) (fun h => absurd hc.1 h)
  exact K _ _ _ _ _ ⟨el, _, T, n, f, hw2.1, hd.fr hw2.2, (hw2.2.2 46 (by decide)).trans ho, hI.iv hc.2⟩ (by omega) (by omega)
set_option maxHeartbeats 4000000 in
set_option maxRecDepth 20000 in
theorem lc_9 (hE : GH E tE mi) (hX : GX E s1 s2) (hSc : SC E b len xs) (hlen : len ≤ 3072) (hi : 6 * i + 6 ≤ len) (hcl : cl + 5 ≤ 601024) (hsl : sl + 144 ≤ 7293034) (hS : LWS E ad tE oa ws) (K : KNX E ad nm ds tE b oa i cl sl post) : V E (yW nm ds) cL_law 7 (some .boolean) 2048 601024 7293034 post 425 [some (.ref b), some (.ref (ad 0)), some (.ref (ad 25)), some (.ref oa), some (.int (nI (6 * i))), z5, z6] [] ws cl sl := by
  obtain ⟨el, g, T, n, f, hw, hd, ho, nP, nN, nT, nW, C, hI⟩ := hS
  have hC := hI.1
  have hP := hC.1.1
  have hP10 := hC.1.2.2
  have hN := hC.2.1.1
  have hN30 := hC.2.1.2.2
  have hT := hC.2.2.1.1
  have hT12 := hC.2.2.1.2.2
  have hW := hC.2.2.2.1.1
  have hW60 := hC.2.2.2.1.2.2
  have hn := hC.2.2.2.2.1
  have hn60 := hC.2.2.2.2.2.2
  have hnok := hI.2.1.2.1.nok hP10
  have hw0 : WF E ad el g ws ws := ⟨hw, Fr.rf⟩
  refine V_aload_n dL_law_425 rfl ?_
  refine V_callV (0) mw_X7_worth mv_L_60 dL_law_426 (ct_X7_worth hw0 hI.cok) hw0.p0 rfl rfl rfl (Nat.le_of_ble_eq_true rfl) (by decide) (by decide) (by omega) (by omega) (fun r1 ws1 hp1 => ?_)
  obtain ⟨rfl, rfl⟩ := hp1
  have hr := hI.rfs (KR.rf g)
  refine V_aload_n dL_law_429 rfl ?_
  refine V_callV (25) mw_X8_worth mv_L_63 dL_law_430 (ct_X8_worth hw hr.1.1 hP10 hr.2.2.1) hw0.p25 rfl rfl rfl (Nat.le_of_ble_eq_true rfl) (by decide) (by decide) (by omega) (by omega) (fun r2 ws2 hp2 => ?_)
  obtain ⟨rfl, hw2⟩ := hp2
  have hc := c_worth hI 
  refine V_icmp_eq 923 dL_law_433 (by decide) (fun _ => ?_) (fun h => absurd hc.1 h)
  exact K _ _ _ _ _ ⟨el, _, T, n, f, hw2.1, hd.fr hw2.2, (hw2.2.2 46 (by decide)).trans ho, hI.iv hc.2⟩ (by omega) (by omega)
set_option maxHeartbeats 4000000 in
set_option maxRecDepth 20000 in
theorem lc_10 (hE : GH E tE mi) (hX : GX E s1 s2) (hSc : SC E b len xs) (hlen : len ≤ 3072) (hi : 6 * i + 6 ≤ len) (hcl : cl + 5 ≤ 601024) (hsl : sl + 144 ≤ 7293034) (hS : LWS E ad tE oa ws) (K : KNX E ad nm ds tE b oa i cl sl post) : V E (yW nm ds) cL_law 7 (some .boolean) 2048 601024 7293034 post 438 [some (.ref b), some (.ref (ad 0)), some (.ref (ad 25)), some (.ref oa), some (.int (nI (6 * i))), z5, z6] [] ws cl sl := by
  obtain ⟨el, g, T, n, f, hw, hd, ho, nP, nN, nT, nW, C, hI⟩ := hS
  have hC := hI.1
  have hP := hC.1.1
  have hP10 := hC.1.2.2
  have hN := hC.2.1.1
  have hN30 := hC.2.1.2.2
  have hT := hC.2.2.1.1
  have hT12 := hC.2.2.1.2.2
  have hW := hC.2.2.2.1.1
  have hW60 := hC.2.2.2.1.2.2
  have hn := hC.2.2.2.2.1
  have hn60 := hC.2.2.2.2.2.2
  have hnok := hI.2.1.2.1.nok hP10
  have hw0 : WF E ad el g ws ws := ⟨hw, Fr.rf⟩
  refine V_aload_n dL_law_438 rfl ?_
  refine V_aload_n dL_law_439 rfl ?_
  refine V_iload dL_law_440 rfl ?_
  refine V_iconst (v := 1) dL_law_442 (by decide) ?_
  refine V_iadd dL_law_443 ?_
  refine V_sld hSc (6 * i + 1) (nI_add (6 * i) 1) (by omega) (by omega) dL_law_444 ?_
  refine V_callV (0) mw_X7_why mv_L_64 dL_law_445 (ct_X7_why hw hN hN30 hnok hT hT12 (xs (6 * i + 1))) hw0.p0 rfl rfl rfl (Nat.le_of_ble_eq_true rfl) (by decide) (by decide) (by omega) (by omega) (fun r1 ws1 hp1 => ?_)
  obtain ⟨rfl, hw1⟩ := hp1
  have hr := hI.rfs (kr_why nN nT (xs (6 * i + 1)))
  refine V_aload_n dL_law_448 rfl ?_
  refine V_aload_n dL_law_449 rfl ?_
  refine V_iload dL_law_450 rfl ?_
  refine V_iconst (v := 1) dL_law_452 (by decide) ?_
  refine V_iadd dL_law_453 ?_
  refine V_sld hSc (6 * i + 1) (nI_add (6 * i) 1) (by omega) (by omega) dL_law_454 ?_
  refine V_callV (25) mw_X8_why mv_L_67 dL_law_455 (ct_X8_why hw1.1 hr.1.1 hP10 hr.1.2.1 hN30 hr.2.1 hr.1.2.2.1 hT12 (xs (6 * i + 1))) hw1.p25 rfl rfl rfl (Nat.le_of_ble_eq_true rfl) (by decide) (by decide) (by omega) (by omega) (fun r2 ws2 hp2 => ?_)
  obtain ⟨rfl, hw2⟩ := hp2
  have hc := c_why hI (xs (6 * i + 1))
  refine V_icmp_eq 923 dL_law_458 (by decide) (fun _ => ?_) (fun h => absurd hc.1 h)
  exact K _ _ _ _ _ ⟨el, _, T, n, f, hw2.1, (hd.fr hw1.2).fr hw2.2, (hw2.2.2 46 (by decide)).trans ((hw1.2.2 46 (by decide)).trans ho), hI.iv hc.2⟩ (by omega) (by omega)
set_option maxHeartbeats 4000000 in
set_option maxRecDepth 20000 in
theorem lc_11 (hE : GH E tE mi) (hX : GX E s1 s2) (hSc : SC E b len xs) (hlen : len ≤ 3072) (hi : 6 * i + 6 ≤ len) (hcl : cl + 5 ≤ 601024) (hsl : sl + 144 ≤ 7293034) (hS : LWS E ad tE oa ws) (K : KNX E ad nm ds tE b oa i cl sl post) : V E (yW nm ds) cL_law 7 (some .boolean) 2048 601024 7293034 post 463 [some (.ref b), some (.ref (ad 0)), some (.ref (ad 25)), some (.ref oa), some (.int (nI (6 * i))), z5, z6] [] ws cl sl := by
  obtain ⟨el, g, T, n, f, hw, hd, ho, nP, nN, nT, nW, C, hI⟩ := hS
  have hC := hI.1
  have hP := hC.1.1
  have hP10 := hC.1.2.2
  have hN := hC.2.1.1
  have hN30 := hC.2.1.2.2
  have hT := hC.2.2.1.1
  have hT12 := hC.2.2.1.2.2
  have hW := hC.2.2.2.1.1
  have hW60 := hC.2.2.2.1.2.2
  have hn := hC.2.2.2.2.1
  have hn60 := hC.2.2.2.2.2.2
  have hnok := hI.2.1.2.1.nok hP10
  have hw0 : WF E ad el g ws ws := ⟨hw, Fr.rf⟩
  refine V_aload_n dL_law_463 rfl ?_
  refine V_aload_n dL_law_464 rfl ?_
  refine V_iload dL_law_465 rfl ?_
  refine V_iconst (v := 1) dL_law_467 (by decide) ?_
  refine V_iadd dL_law_468 ?_
  refine V_sld hSc (6 * i + 1) (nI_add (6 * i) 1) (by omega) (by omega) dL_law_469 ?_
  refine V_aload_n dL_law_470 rfl ?_
  refine V_iload dL_law_471 rfl ?_
  refine V_iconst (v := 2) dL_law_473 (by decide) ?_
  refine V_iadd dL_law_474 ?_
  refine V_sld hSc (6 * i + 2) (nI_add (6 * i) 2) (by omega) (by omega) dL_law_475 ?_
  refine V_aload_n dL_law_476 rfl ?_
  refine V_iload dL_law_477 rfl ?_
  refine V_iconst (v := 3) dL_law_479 (by decide) ?_
  refine V_iadd dL_law_480 ?_
  refine V_sld hSc (6 * i + 3) (nI_add (6 * i) 3) (by omega) (by omega) dL_law_481 ?_
  refine V_callV (0) mw_X7_fix mv_L_68 dL_law_482 (ct_X7_fix hw hN hN30 hnok hT hT12 hP hP10 hI.cok (xs (6 * i + 1)) (xs (6 * i + 2)) (xs (6 * i + 3))) hw0.p0 rfl rfl rfl (Nat.le_of_ble_eq_true rfl) (by decide) (by decide) (by omega) (by omega) (fun r1 ws1 hp1 => ?_)
  obtain ⟨rfl, hw1⟩ := hp1
  have hr := hI.rfs (kr_fix nN nT (xs (6 * i + 1)) (xs (6 * i + 2)) (xs (6 * i + 3)))
  refine V_aload_n dL_law_485 rfl ?_
  refine V_aload_n dL_law_486 rfl ?_
  refine V_iload dL_law_487 rfl ?_
  refine V_iconst (v := 1) dL_law_489 (by decide) ?_
  refine V_iadd dL_law_490 ?_
  refine V_sld hSc (6 * i + 1) (nI_add (6 * i) 1) (by omega) (by omega) dL_law_491 ?_
  refine V_aload_n dL_law_492 rfl ?_
  refine V_iload dL_law_493 rfl ?_
  refine V_iconst (v := 2) dL_law_495 (by decide) ?_
  refine V_iadd dL_law_496 ?_
  refine V_sld hSc (6 * i + 2) (nI_add (6 * i) 2) (by omega) (by omega) dL_law_497 ?_
  refine V_aload_n dL_law_498 rfl ?_
  refine V_iload dL_law_499 rfl ?_
  refine V_iconst (v := 3) dL_law_501 (by decide) ?_
  refine V_iadd dL_law_502 ?_
  refine V_sld hSc (6 * i + 3) (nI_add (6 * i) 3) (by omega) (by omega) dL_law_503 ?_
  refine V_callV (25) mw_X8_fix mv_L_72 dL_law_504 (ct_X8_fix hw1.1 hr.1.1 hP10 hr.1.2.1 hN30 hr.2.1 hr.1.2.2.1 hT12 (xs (6 * i + 1)) (xs (6 * i + 2)) (xs (6 * i + 3))) hw1.p25 rfl rfl rfl (Nat.le_of_ble_eq_true rfl) (by decide) (by decide) (by omega) (by omega) (fun r2 ws2 hp2 => ?_)
  obtain ⟨rfl, hw2⟩ := hp2
  have hc := c_fix hI (xs (6 * i + 1)) (xs (6 * i + 2)) (xs (6 * i + 3))
  refine V_icmp_eq 923 dL_law_507 (by decide) (fun _ => ?_) (fun h => absurd hc.1 h)
  exact K _ _ _ _ _ ⟨el, _, T, n, f, hw2.1, (hd.fr hw1.2).fr hw2.2, (hw2.2.2 46 (by decide)).trans ((hw1.2.2 46 (by decide)).trans ho), hc.2⟩ (by omega) (by omega)
set_option maxHeartbeats 4000000 in
set_option maxRecDepth 20000 in
theorem lc_12 (hE : GH E tE mi) (hX : GX E s1 s2) (hSc : SC E b len xs) (hlen : len ≤ 3072) (hi : 6 * i + 6 ≤ len) (hcl : cl + 5 ≤ 601024) (hsl : sl + 144 ≤ 7293034) (hS : LWS E ad tE oa ws) (K : KNX E ad nm ds tE b oa i cl sl post) : V E (yW nm ds) cL_law 7 (some .boolean) 2048 601024 7293034 post 512 [some (.ref b), some (.ref (ad 0)), some (.ref (ad 25)), some (.ref oa), some (.int (nI (6 * i))), z5, z6] [] ws cl sl := by
  obtain ⟨el, g, T, n, f, hw, hd, ho, nP, nN, nT, nW, C, hI⟩ := hS
  have hC := hI.1
  have hP := hC.1.1
  have hP10 := hC.1.2.2
  have hN := hC.2.1.1
  have hN30 := hC.2.1.2.2
  have hT := hC.2.2.1.1
  have hT12 := hC.2.2.1.2.2
  have hW := hC.2.2.2.1.1
  have hW60 := hC.2.2.2.1.2.2
  have hn := hC.2.2.2.2.1
  have hn60 := hC.2.2.2.2.2.2
  have hnok := hI.2.1.2.1.nok hP10
  have hw0 : WF E ad el g ws ws := ⟨hw, Fr.rf⟩
  refine V_aload_n dL_law_512 rfl ?_
  refine V_aload_n dL_law_513 rfl ?_
  refine V_iload dL_law_514 rfl ?_
  refine V_iconst (v := 1) dL_law_516 (by decide) ?_
  refine V_iadd dL_law_517 ?_
  refine V_sld hSc (6 * i + 1) (nI_add (6 * i) 1) (by omega) (by omega) dL_law_518 ?_
  refine V_aload_n dL_law_519 rfl ?_
  refine V_iload dL_law_520 rfl ?_
  refine V_iconst (v := 2) dL_law_522 (by decide) ?_
  refine V_iadd dL_law_523 ?_
  refine V_sld hSc (6 * i + 2) (nI_add (6 * i) 2) (by omega) (by omega) dL_law_524 ?_
  refine V_aload_n dL_law_525 rfl ?_
  refine V_iload dL_law_526 rfl ?_
  refine V_iconst (v := 3) dL_law_528 (by decide) ?_
  refine V_iadd dL_law_529 ?_
  refine V_sld hSc (6 * i + 3) (nI_add (6 * i) 3) (by omega) (by omega) dL_law_530 ?_
  refine V_callV (0) mw_X7_leave mv_L_73 dL_law_531 (ct_X7_leave hw hN hN30 hnok hT hT12 hP hP10 hI.cok (xs (6 * i + 1)) (xs (6 * i + 2)) (xs (6 * i + 3))) hw0.p0 rfl rfl rfl (Nat.le_of_ble_eq_true rfl) (by decide) (by decide) (by omega) (by omega) (fun r1 ws1 hp1 => ?_)
  obtain ⟨rfl, hw1⟩ := hp1
  have hr := hI.rfs (kr_leave nN nT (xs (6 * i + 1)) (xs (6 * i + 2)) (xs (6 * i + 3)))
  refine V_aload_n dL_law_534 rfl ?_
  refine V_aload_n dL_law_535 rfl ?_
  refine V_iload dL_law_536 rfl ?_
  refine V_iconst (v := 1) dL_law_538 (by decide) ?_
  refine V_iadd dL_law_539 ?_
  refine V_sld hSc (6 * i + 1) (nI_add (6 * i) 1) (by omega) (by omega) dL_law_540 ?_
  refine V_aload_n dL_law_541 rfl ?_
  refine V_iload dL_law_542 rfl ?_
  refine V_iconst (v := 2) dL_law_544 (by decide) ?_
  refine V_iadd dL_law_545 ?_
  refine V_sld hSc (6 * i + 2) (nI_add (6 * i) 2) (by omega) (by omega) dL_law_546 ?_
  refine V_aload_n dL_law_547 rfl ?_
  refine V_iload dL_law_548 rfl ?_
  refine V_iconst (v := 3) dL_law_550 (by decide) ?_
  refine V_iadd dL_law_551 ?_
  refine V_sld hSc (6 * i + 3) (nI_add (6 * i) 3) (by omega) (by omega) dL_law_552 ?_
  refine V_callV (25) mw_X8_leave mv_L_76 dL_law_553 (ct_X8_leave hw1.1 hr.1.1 hP10 hr.1.2.1 hN30 hr.2.1 hr.1.2.2.1 hT12 hr.2.2.1 (xs (6 * i + 1)) (xs (6 * i + 2)) (xs (6 * i + 3))) hw1.p25 rfl rfl rfl (Nat.le_of_ble_eq_true rfl) (by decide) (by decide) (by omega) (by omega) (fun r2 ws2 hp2 => ?_)
  obtain ⟨rfl, hw2⟩ := hp2
  have hc := c_leave hI (xs (6 * i + 1)) (xs (6 * i + 2)) (xs (6 * i + 3))
  refine V_icmp_eq 923 dL_law_556 (by decide) (fun _ => ?_) (fun h => absurd hc.1 h)
  exact K _ _ _ _ _ ⟨el, _, T, n, f, hw2.1, (hd.fr hw1.2).fr hw2.2, (hw2.2.2 46 (by decide)).trans ((hw1.2.2 46 (by decide)).trans ho), hc.2⟩ (by omega) (by omega)
end LAW2
