/-! ===== the law: its loop, its beginning ===== -/
section LAW6
variable {E : VE} {ad : Nat → Nat} {tE mi s1 s2 b len : Nat} {xs : Nat → Int32} {oa : Nat} {nm ds : String} {ws : va_W} {i cl sl : Nat} {z5 z6 : Option Value} {post : Option Value → va_W → Prop}
theorem sub6 {len i : Nat} (hlen : len ≤ 3072) (hi : i ≤ 600) : nI len - 6 < nI (6 * i) ↔ len < 6 * i + 6 := by
  rw [Int32.lt_iff_toInt_lt, show (6 : Int32) = nI 6 from rfl, pk_sub_toInt (by omega) (by decide), nI_toInt (by omega)]
  omega
set_option maxHeartbeats 4000000 in
set_option maxRecDepth 20000 in
theorem lp_law (hE : GH E tE mi) (hX : GX E s1 s2) (hSc : SC E b len xs) (hlen : len ≤ 3072) (hpost : ∀ w, post (some (.int 1)) w) : ∀ (k i : Nat) (ws : va_W) (z5 z6 : Option Value), i + k = 600 → LWS E ad tE oa ws → V E (yW nm ds) cL_law 7 (some .boolean) 2048 601024 7293034 post 23 [some (.ref b), some (.ref (ad 0)), some (.ref (ad 25)), some (.ref oa), some (.int (nI (6 * i))), z5, z6] [] ws (60 + 5 * i) (3300 + 144 * i) := by
  intro k
  induction k with
  | zero =>
    intro i ws z5 z6 hk hS
    refine V_iload dL_law_23 rfl ?_
    refine V_aload_n dL_law_25 rfl ?_
    refine V_slen hSc dL_law_26 ?_
    refine V_bipush (v := 6) dL_law_27 (by decide) ?_
    refine V_isub dL_law_29 ?_
    refine V_icmp_gt 929 dL_law_30 (by decide) (fun h => ?_) (fun h => absurd ((sub6 hlen (by omega)).mpr (by omega)) h)
    refine V_iconst (v := 1) dL_law_929 (by decide) ?_
    exact V_zret dL_law_930 rfl (Or.inr rfl) (by omega) (by omega) (hpost _)
  | succ k ih =>
    intro i ws z5 z6 hk hS
    refine V_iload dL_law_23 rfl ?_
    refine V_aload_n dL_law_25 rfl ?_
    refine V_slen hSc dL_law_26 ?_
    refine V_bipush (v := 6) dL_law_27 (by decide) ?_
    refine V_isub dL_law_29 ?_
    refine V_icmp_gt 929 dL_law_30 (by decide) (fun h => ?_) (fun h => ?_)
    · refine V_iconst (v := 1) dL_law_929 (by decide) ?_
      exact V_zret dL_law_930 rfl (Or.inr rfl) (by omega) (by omega) (hpost _)
    have hi : 6 * i + 6 ≤ len := Nat.le_of_not_lt (fun z => h ((sub6 hlen (by omega)).mpr z))
    refine V_aload_n dL_law_33 rfl ?_
    refine V_iload dL_law_34 rfl ?_
    refine V_sld hSc (6 * i) rfl (by omega) (by omega) dL_law_36 ?_
    refine V_bipush (v := 31) dL_law_37 (by decide) ?_
    refine V_iand dL_law_39 ?_
    have K : KNX E ad nm ds tE b oa i (60 + 5 * i) (3300 + 144 * i) post := by
      intro ws' z5' z6' cl' sl' hS' h1 h2
      refine V_iinc (v := nI (6 * (i + 1))) dL_law_923 rfl (show nI (6 * i) + nI 6 = nI (6 * (i + 1)) from nI_add (6 * i) 6) (by decide) ?_
      refine V_goto 23 dL_law_926 (by decide) ?_
      refine V_widen (cl' := 60 + 5 * (i + 1)) (sl' := 3300 + 144 * (i + 1)) (by omega) (by omega) ?_
      exact ih (i + 1) ws' z5' z6' (by omega) hS'
    obtain ⟨j, hj, ej⟩ := pk_andE (xs (6 * i)) (m := 31) 5 (by decide)
    rw [ej]
    by_cases h24 : j < 24
    · rcases (show j = 0 ∨ j = 1 ∨ j = 2 ∨ j = 3 ∨ j = 4 ∨ j = 5 ∨ j = 6 ∨ j = 7 ∨ j = 8 ∨ j = 9 ∨ j = 10 ∨ j = 11 ∨ j = 12 ∨ j = 13 ∨ j = 14 ∨ j = 15 ∨ j = 16 ∨ j = 17 ∨ j = 18 ∨ j = 19 ∨ j = 20 ∨ j = 21 ∨ j = 22 ∨ j = 23 by omega) with rfl | rfl | rfl | rfl | rfl | rfl | rfl | rfl | rfl | rfl | rfl | rfl | rfl | rfl | rfl | rfl | rfl | rfl | rfl | rfl | rfl | rfl | rfl | rfl
      · refine V_tableIn 152 dL_law_40 (by decide) (by decide) (by rfl) (by decide) ?_
        exact lc_0 hE hX hSc hlen hi (by omega) (by omega) hS K
      · refine V_tableIn 177 dL_law_40 (by decide) (by decide) (by rfl) (by decide) ?_
        exact lc_1 hE hX hSc hlen hi (by omega) (by omega) hS K
      · refine V_tableIn 226 dL_law_40 (by decide) (by decide) (by rfl) (by decide) ?_
        exact lc_2 hE hX hSc hlen hi (by omega) (by omega) hS K
      · refine V_tableIn 251 dL_law_40 (by decide) (by decide) (by rfl) (by decide) ?_
        exact lc_3 hE hX hSc hlen hi (by omega) (by omega) hS K
      · refine V_tableIn 324 dL_law_40 (by decide) (by decide) (by rfl) (by decide) ?_
        exact lc_4 hE hX hSc hlen hi (by omega) (by omega) hS K
      · refine V_tableIn 349 dL_law_40 (by decide) (by decide) (by rfl) (by decide) ?_
        exact lc_5 hE hX hSc hlen hi (by omega) (by omega) hS K
      · refine V_tableIn 374 dL_law_40 (by decide) (by decide) (by rfl) (by decide) ?_
        exact lc_6 hE hX hSc hlen hi (by omega) (by omega) hS K
      · refine V_tableIn 399 dL_law_40 (by decide) (by decide) (by rfl) (by decide) ?_
        exact lc_7 hE hX hSc hlen hi (by omega) (by omega) hS K
      · refine V_tableIn 412 dL_law_40 (by decide) (by decide) (by rfl) (by decide) ?_
        exact lc_8 hE hX hSc hlen hi (by omega) (by omega) hS K
      · refine V_tableIn 425 dL_law_40 (by decide) (by decide) (by rfl) (by decide) ?_
        exact lc_9 hE hX hSc hlen hi (by omega) (by omega) hS K
      · refine V_tableIn 438 dL_law_40 (by decide) (by decide) (by rfl) (by decide) ?_
        exact lc_10 hE hX hSc hlen hi (by omega) (by omega) hS K
      · refine V_tableIn 463 dL_law_40 (by decide) (by decide) (by rfl) (by decide) ?_
        exact lc_11 hE hX hSc hlen hi (by omega) (by omega) hS K
      · refine V_tableIn 512 dL_law_40 (by decide) (by decide) (by rfl) (by decide) ?_
        exact lc_12 hE hX hSc hlen hi (by omega) (by omega) hS K
      · refine V_tableIn 561 dL_law_40 (by decide) (by decide) (by rfl) (by decide) ?_
        exact lc_13 hE hX hSc hlen hi (by omega) (by omega) hS K
      · refine V_tableIn 586 dL_law_40 (by decide) (by decide) (by rfl) (by decide) ?_
        exact lc_14 hE hX hSc hlen hi (by omega) (by omega) hS K
      · refine V_tableIn 599 dL_law_40 (by decide) (by decide) (by rfl) (by decide) ?_
        exact lc_15 hE hX hSc hlen hi (by omega) (by omega) hS K
      · refine V_tableIn 612 dL_law_40 (by decide) (by decide) (by rfl) (by decide) ?_
        exact lc_16 hE hX hSc hlen hi (by omega) (by omega) hS K
      · refine V_tableIn 677 dL_law_40 (by decide) (by decide) (by rfl) (by decide) ?_
        exact lc_17 hE hX hSc hlen hi (by omega) (by omega) hS K
      · refine V_tableIn 690 dL_law_40 (by decide) (by decide) (by rfl) (by decide) ?_
        exact lc_18 hE hX hSc hlen hi (by omega) (by omega) hS K
      · refine V_tableIn 715 dL_law_40 (by decide) (by decide) (by rfl) (by decide) ?_
        exact lc_19 hE hX hSc hlen hi (by omega) (by omega) hS K
      · refine V_tableIn 740 dL_law_40 (by decide) (by decide) (by rfl) (by decide) ?_
        exact lc_20 hE hX hSc hlen hi (by omega) (by omega) hS K
      · refine V_tableIn 777 dL_law_40 (by decide) (by decide) (by rfl) (by decide) ?_
        exact lc_21 hE hX hSc hlen hi (by omega) (by omega) hS K
      · refine V_tableIn 873 dL_law_40 (by decide) (by decide) (by rfl) (by decide) ?_
        exact lc_22 hE hX hSc hlen hi (by omega) (by omega) hS K
      · refine V_tableIn 898 dL_law_40 (by decide) (by decide) (by rfl) (by decide) ?_
        exact lc_23 hE hX hSc hlen hi (by omega) (by omega) hS K
    · refine V_tableOut 923 dL_law_40 (Or.inr (by rw [nI_toInt (by omega)]; omega)) (by decide) ?_
      exact K _ _ _ _ _ hS (by omega) (by omega)
/-- both objects as they begin -/
def g00 : Nat → Nat → Int32
  | 0 => fun j => if j = 10 then -1 else 0
  | 3 => fillF (fun _ => 0) (-1) 10
  | 4 => fillF (fun _ => 0) (-1) 10
  | 6 => fillF (fun _ => 0) (-1) 10
  | 7 => fillF (fun _ => 0) (-1) 10
  | 18 => fun j => if j = 1 then -1 else 0
  | _ => fun _ => 0
theorem iv_00 (T : Nat → TR) : IV g00 T 0 := by
  refine ⟨0, 0, 0, 0, 0, ⟨⟨rfl, rfl, by decide⟩, ⟨rfl, rfl, by decide⟩, ⟨rfl, rfl, by decide⟩, ⟨rfl, rfl, by decide⟩, ⟨rfl, rfl, by decide⟩⟩, ⟨fun p hp => absurd hp (Nat.not_lt_zero _), fun p hp => absurd hp (Nat.not_lt_zero _), fun p hp => absurd hp (Nat.not_lt_zero _), fun p hp => absurd hp (Nat.not_lt_zero _)⟩, ⟨fun p hp => ?_, fun p hp => absurd hp (Nat.not_lt_zero _), fun p hp => absurd hp (Nat.not_lt_zero _)⟩, ⟨by decide, rfl, Or.inl ⟨rfl, rfl⟩⟩, fun p hp => absurd hp (Nat.not_lt_zero _), trivial⟩
  have h : ∀ k, (k = 3 ∨ k = 4 ∨ k = 6 ∨ k = 7) → g00 k p = -1 := fun k hk => by
    rcases hk with rfl | rfl | rfl | rfl
    · exact if_pos hp
    · exact if_pos hp
    · exact if_pos hp
    · exact if_pos hp
  rw [h 3 (by omega), h 4 (by omega), h 6 (by omega), h 7 (by omega)]
  exact ⟨fun _ => ⟨rfl, rfl⟩, fun _ => rfl, fun z => absurd rfl z, fun _ => rfl⟩
def ad0 (l : List Nat) : Nat → Nat := fun k => l.getD k 0
set_option maxHeartbeats 4000000 in
set_option maxRecDepth 20000 in
theorem wd_00 {E : VE} {tE oa : Nat} {f : Nat → Int64} (a0 a1 a2 a3 a4 a5 a6 a7 a8 a9 a10 a11 a12 a13 a14 a15 a16 a17 a18 a19 a20 a21 a22 a23 a24 o v0 v1 v2 v3 v4 v5 v6 v7 v8 v9 v10 v11 v12 v13 v14 v15 v16 v17 v18 v19 : Nat) (ws : va_W) (hw : ws = [(a0, .inr (7, [.ref a1, .ref a2, .ref a5, .ref a8, .ref a16, .ref a18, .ref a20, .ref a21, .ref a24, .int 0, .int (-1)])), (a1, .inl (cI E, 10, .inl (fun _ => 0))), (a2, .inr (2, [.ref a3, .ref a4])), (a3, .inl (cI E, 10, .inl (fillF (fun _ => 0) (-1) 10))), (a4, .inl (cI E, 10, .inl (fillF (fun _ => 0) (-1) 10))), (a5, .inr (2, [.ref a6, .ref a7])), (a6, .inl (cI E, 10, .inl (fillF (fun _ => 0) (-1) 10))), (a7, .inl (cI E, 10, .inl (fillF (fun _ => 0) (-1) 10))), (a8, .inr (1, [.ref a9, .ref a10, .ref a11, .ref a12, .ref a13, .ref a14, .ref a15, .int 0])), (a9, .inl (cI E, 30, .inl (fun _ => 0))), (a10, .inl (cI E, 30, .inl (fun _ => 0))), (a11, .inl (cI E, 30, .inl (fun _ => 0))), (a12, .inl (cI E, 30, .inl (fun _ => 0))), (a13, .inl (cI E, 30, .inl (fun _ => 0))), (a14, .inl (cI E, 30, .inl (fun _ => 0))), (a15, .inl (cI E, 30, .inl (fun _ => 0))), (a16, .inr (5, [.ref a17, .int 0])), (a17, .inl (cI E, 12, .inl (fun _ => 0))), (a18, .inr (4, [.ref a19, .int (-1)])), (a19, .inl (cI E, 10, .inl (fun _ => 0))), (a20, .inr (0, [.int 0, .int 0])), (a21, .inr (3, [.ref a22, .ref a23, .int 0])), (a22, .inl (cI E, 60, .inl (fun _ => 0))), (a23, .inl (cI E, 60, .inl (fun _ => 0))), (a24, .inr (9, [.int 0, .ref tE, .int 0])), (o, .inr (8, [.int 0, .ref v0, .ref v1, .ref v2, .ref v3, .ref v4, .ref v5, .ref v6, .ref v7, .ref v8, .ref v9, .ref v10, .ref v11, .ref v12, .ref v13, .ref v14, .ref v15, .ref v16, .ref v17, .int 0, .int 0, .int 0, .int 0, .int 0, .int 0, .int 0, .int 0, .int 0, .ref v18, .ref v19, .int 0, .int 0, .int 0])), (v0, .inl (cI E, 10, .inl (fun _ => 0))), (v1, .inl (cI E, 10, .inl (fun _ => 0))), (v2, .inl (cI E, 10, .inl (fun _ => 0))), (v3, .inl (cI E, 10, .inl (fun _ => 0))), (v4, .inl (cI E, 10, .inl (fun _ => 0))), (v5, .inl (cI E, 30, .inl (fun _ => 0))), (v6, .inl (cI E, 30, .inl (fun _ => 0))), (v7, .inl (cI E, 30, .inl (fun _ => 0))), (v8, .inl (cI E, 30, .inl (fun _ => 0))), (v9, .inl (cI E, 30, .inl (fun _ => 0))), (v10, .inl (cI E, 12, .inl (fun _ => 0))), (v11, .inl (cI E, 60, .inl (fun _ => 0))), (v12, .inl (cI E, 60, .inl (fun _ => 0))), (v13, .inl (cI E, 60, .inl (fun _ => 0))), (v14, .inl (cI E, 60, .inl (fun _ => 0))), (v15, .inl (cI E, 600, .inl (fun _ => 0))), (v16, .inl (cI E, 600, .inl (fun _ => 0))), (v17, .inl (cZ E, 60, .inl (fun _ => 0))), (v18, .inl (cZ E, 1024, .inl (fun _ => 0))), (v19, .inl (cI E, 10, .inl (fun _ => 0))), (oa, .inl (cJ E, 1, .inr (.inl f)))]) : Wd E (ad0 [a0, a1, a2, a3, a4, a5, a6, a7, a8, a9, a10, a11, a12, a13, a14, a15, a16, a17, a18, a19, a20, a21, a22, a23, a24, o, v0, v1, v2, v3, v4, v5, v6, v7, v8, v9, v10, v11, v12, v13, v14, v15, v16, v17, v18, v19]) tE g00 ws := by
  subst hw
  intro k hk
  match k, hk with
  | 0, _ => rfl
  | 1, _ => rfl
  | 2, _ => rfl
  | 3, _ => rfl
  | 4, _ => rfl
  | 5, _ => rfl
  | 6, _ => rfl
  | 7, _ => rfl
  | 8, _ => rfl
  | 9, _ => rfl
  | 10, _ => rfl
  | 11, _ => rfl
  | 12, _ => rfl
  | 13, _ => rfl
  | 14, _ => rfl
  | 15, _ => rfl
  | 16, _ => rfl
  | 17, _ => rfl
  | 18, _ => rfl
  | 19, _ => rfl
  | 20, _ => rfl
  | 21, _ => rfl
  | 22, _ => rfl
  | 23, _ => rfl
  | 24, _ => rfl
  | 25, _ => rfl
  | 26, _ => rfl
  | 27, _ => rfl
  | 28, _ => rfl
  | 29, _ => rfl
  | 30, _ => rfl
  | 31, _ => rfl
  | 32, _ => rfl
  | 33, _ => rfl
  | 34, _ => rfl
  | 35, _ => rfl
  | 36, _ => rfl
  | 37, _ => rfl
  | 38, _ => rfl
  | 39, _ => rfl
  | 40, _ => rfl
  | 41, _ => rfl
  | 42, _ => rfl
  | 43, _ => rfl
  | 44, _ => rfl
  | 45, _ => rfl
  | k + 46, h => omega
set_option maxHeartbeats 4000000 in
set_option maxRecDepth 20000 in
theorem law_V (hE : GH E tE mi) (hX : GX E s1 s2) (hSc : SC E b len xs) (hlen : len ≤ 3072) (hpost : ∀ w, post (some (.int 1)) w) : V E (yW nm ds) cL_law 7 (some .boolean) 2048 601024 7293034 post 0 [some (.ref b), none, none, none, none, none, none] [] [] 0 0 := by
  refine V_new (ci := 7) (fs := [.null, .null, .null, .null, .null, .null, .null, .null, .null, .int 0, .int 0]) (ty := tyX7) ui_X7 tyX7_ok wd_cl_L_8 wd_in_X7 wd_ii_X7 rfl (fun j hj => by rcases (show j = 0 ∨ j = 1 ∨ j = 2 ∨ j = 3 ∨ j = 4 ∨ j = 5 ∨ j = 6 ∨ j = 7 ∨ j = 8 ∨ j = 9 ∨ j = 10 by omega) with rfl | rfl | rfl | rfl | rfl | rfl | rfl | rfl | rfl | rfl | rfl <;> rfl) dL_law_0 (Nat.le_of_ble_eq_true rfl) (Nat.le_of_ble_eq_true rfl) (fun a0 => ?_)
  refine V_dup dL_law_3 rfl ?_
  refine V_callI mw_X7_init mi_L_15 dL_law_4 (ct_X7_init hE a0) rfl rfl (Nat.le_of_ble_eq_true rfl) (by decide) (by decide) (Nat.le_of_ble_eq_true rfl) (Nat.le_of_ble_eq_true rfl) (fun r1 w1 hp1 => ?_)
  obtain ⟨a1, a2, a3, a4, a5, a6, a7, a8, a9, a10, a11, a12, a13, a14, a15, a16, a17, a18, a19, a20, a21, a22, a23, a24, rfl, rfl⟩ := hp1
  refine V_astore_n dL_law_7 (by decide) ?_
  refine V_new (ci := 8) (fs := [.int 0, .null, .null, .null, .null, .null, .null, .null, .null, .null, .null, .null, .null, .null, .null, .null, .null, .null, .null, .int 0, .int 0, .int 0, .int 0, .int 0, .int 0, .int 0, .int 0, .int 0, .null, .null, .int 0, .int 0, .int 0]) (ty := tyX8) ui_X8 tyX8_ok wd_cl_L_16 wd_in_X8 wd_ii_X8 rfl (fun j hj => by rcases (show j = 0 ∨ j = 1 ∨ j = 2 ∨ j = 3 ∨ j = 4 ∨ j = 5 ∨ j = 6 ∨ j = 7 ∨ j = 8 ∨ j = 9 ∨ j = 10 ∨ j = 11 ∨ j = 12 ∨ j = 13 ∨ j = 14 ∨ j = 15 ∨ j = 16 ∨ j = 17 ∨ j = 18 ∨ j = 19 ∨ j = 20 ∨ j = 21 ∨ j = 22 ∨ j = 23 ∨ j = 24 ∨ j = 25 ∨ j = 26 ∨ j = 27 ∨ j = 28 ∨ j = 29 ∨ j = 30 ∨ j = 31 ∨ j = 32 by omega) with rfl | rfl | rfl | rfl | rfl | rfl | rfl | rfl | rfl | rfl | rfl | rfl | rfl | rfl | rfl | rfl | rfl | rfl | rfl | rfl | rfl | rfl | rfl | rfl | rfl | rfl | rfl | rfl | rfl | rfl | rfl | rfl | rfl <;> rfl) dL_law_8 (Nat.le_of_ble_eq_true rfl) (Nat.le_of_ble_eq_true rfl) (fun o => ?_)
  refine V_dup dL_law_11 rfl ?_
  refine V_callI mw_X8_init mi_L_18 dL_law_12 (ct_X8_init (ws := [(a0, .inr (7, [.ref a1, .ref a2, .ref a5, .ref a8, .ref a16, .ref a18, .ref a20, .ref a21, .ref a24, .int 0, .int (-1)])), (a1, .inl (cI E, 10, .inl (fun _ => 0))), (a2, .inr (2, [.ref a3, .ref a4])), (a3, .inl (cI E, 10, .inl (fillF (fun _ => 0) (-1) 10))), (a4, .inl (cI E, 10, .inl (fillF (fun _ => 0) (-1) 10))), (a5, .inr (2, [.ref a6, .ref a7])), (a6, .inl (cI E, 10, .inl (fillF (fun _ => 0) (-1) 10))), (a7, .inl (cI E, 10, .inl (fillF (fun _ => 0) (-1) 10))), (a8, .inr (1, [.ref a9, .ref a10, .ref a11, .ref a12, .ref a13, .ref a14, .ref a15, .int 0])), (a9, .inl (cI E, 30, .inl (fun _ => 0))), (a10, .inl (cI E, 30, .inl (fun _ => 0))), (a11, .inl (cI E, 30, .inl (fun _ => 0))), (a12, .inl (cI E, 30, .inl (fun _ => 0))), (a13, .inl (cI E, 30, .inl (fun _ => 0))), (a14, .inl (cI E, 30, .inl (fun _ => 0))), (a15, .inl (cI E, 30, .inl (fun _ => 0))), (a16, .inr (5, [.ref a17, .int 0])), (a17, .inl (cI E, 12, .inl (fun _ => 0))), (a18, .inr (4, [.ref a19, .int (-1)])), (a19, .inl (cI E, 10, .inl (fun _ => 0))), (a20, .inr (0, [.int 0, .int 0])), (a21, .inr (3, [.ref a22, .ref a23, .int 0])), (a22, .inl (cI E, 60, .inl (fun _ => 0))), (a23, .inl (cI E, 60, .inl (fun _ => 0))), (a24, .inr (9, [.int 0, .ref tE, .int 0])), (o, .inr (8, [.int 0, .null, .null, .null, .null, .null, .null, .null, .null, .null, .null, .null, .null, .null, .null, .null, .null, .null, .null, .int 0, .int 0, .int 0, .int 0, .int 0, .int 0, .int 0, .int 0, .int 0, .null, .null, .int 0, .int 0, .int 0]))]) (q := 25) (o := o) rfl) rfl rfl (Nat.le_of_ble_eq_true rfl) (by decide) (by decide) (Nat.le_of_ble_eq_true rfl) (Nat.le_of_ble_eq_true rfl) (fun r2 w2 hp2 => ?_)
  obtain ⟨v0, v1, v2, v3, v4, v5, v6, v7, v8, v9, v10, v11, v12, v13, v14, v15, v16, v17, v18, v19, rfl, rfl⟩ := hp2
  refine V_astore_n dL_law_15 (by decide) ?_
  refine V_iconst (v := 1) dL_law_16 (by decide) ?_
  refine V_newaJ (N := 1) wd_ar_long dL_law_17 (by decide) (by decide) (by decide) (Nat.le_of_ble_eq_true rfl) (Nat.le_of_ble_eq_true rfl) (fun oa => ?_)
  refine V_astore_n dL_law_19 (by decide) ?_
  refine V_iconst (v := 0) dL_law_20 (by decide) ?_
  refine V_istore dL_law_21 (by decide) ?_
  refine V_widen (cl' := 60 + 5 * 0) (sl' := 3300 + 144 * 0) (Nat.le_of_ble_eq_true rfl) (Nat.le_of_ble_eq_true rfl) ?_
  exact lp_law (ad := ad0 [a0, a1, a2, a3, a4, a5, a6, a7, a8, a9, a10, a11, a12, a13, a14, a15, a16, a17, a18, a19, a20, a21, a22, a23, a24, o, v0, v1, v2, v3, v4, v5, v6, v7, v8, v9, v10, v11, v12, v13, v14, v15, v16, v17, v18, v19]) (oa := oa) hE hX hSc hlen hpost 600 0 _ none none rfl ⟨tE, g00, fun _ => (0, fun _ => 0, fun _ => 0, 0, 0), 0, fun _ => 0, wd_00 a0 a1 a2 a3 a4 a5 a6 a7 a8 a9 a10 a11 a12 a13 a14 a15 a16 a17 a18 a19 a20 a21 a22 a23 a24 o v0 v1 v2 v3 v4 v5 v6 v7 v8 v9 v10 v11 v12 v13 v14 v15 v16 v17 v18 v19 _ rfl, ⟨fun _ => 0, fun _ => 0, fun _ => 0, fun _ => 0, 0, 0, fun _ => none, fun t ht => absurd ht (Nat.not_lt_zero _), fun t u ht => absurd ht (Nat.not_lt_zero _), Or.inl ⟨rfl, rfl⟩⟩, rfl, iv_00 _⟩
end LAW6
