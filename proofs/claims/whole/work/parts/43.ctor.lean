set_option maxRecDepth 20000 in
theorem wd_ar_boolean : Cond.arrayClass .boolean ∈ TB := TB_of 830 rfl rfl
set_option maxRecDepth 20000 in
theorem wd_ar_long : Cond.arrayClass .long ∈ TB := TB_of 1010 rfl rfl
/-! ===== constructors: the object at q, its rows behind the world ===== -/
section CTR
variable {E : VE} {ad : Nat → Nat} {el : Nat} {g : Nat → Nat → Int32} {w0 ws : va_W} {tE mi : Nat}
theorem V.eqw {y : MethodName} {bt : ByteArray} {nL : Nat} {rt : Option FieldType} {fr mc ms : Nat} {post : Option Value → va_W → Prop} {pc : Nat} {L : List (Option Value)} {st : List Value} {ws ws' : va_W} {cl sl : Nat} (h : ws = ws') (k : V E y bt nL rt fr mc ms post pc L st ws' cl sl) : V E y bt nL rt fr mc ms post pc L st ws cl sl := h ▸ k
theorem nf_0 {q : Nat} {e : Nat × va_E} (h : ws[q]? = some e) : ws = ws.set q e ++ [] := by rw [List.append_nil, set_same h]
theorem nf_q {q : Nat} {e x : Nat × va_E} {L : va_W} (h : ws[q]? = some e) : (ws.set q x ++ L)[q]? = some x := by
  have hl := (List.getElem?_eq_some_iff.mp h).1
  rw [List.getElem?_append_left (by rw [List.length_set]; exact hl)]
  exact set_at h
theorem nf_k {q : Nat} {x z : Nat × va_E} {L : va_W} (i : Nat) (h : L[i]? = some z) : (ws.set q x ++ L)[ws.length + i]? = some z := by
  rw [List.getElem?_append_right (by rw [List.length_set]; omega), List.length_set, show ws.length + i - ws.length = i by omega]
  exact h
theorem nf_sq {q : Nat} {e x z : Nat × va_E} {L : va_W} (h : ws[q]? = some e) : (ws.set q x ++ L).set q z = ws.set q z ++ L := by
  have hl := (List.getElem?_eq_some_iff.mp h).1
  rw [List.set_append_left _ _ (by rw [List.length_set]; exact hl), List.set_set]
theorem nf_sk {q : Nat} {x z : Nat × va_E} {L : va_W} (i : Nat) : (ws.set q x ++ L).set (ws.length + i) z = ws.set q x ++ L.set i z := by
  rw [List.set_append_right _ _ (by rw [List.length_set]; omega), List.length_set, show ws.length + i - ws.length = i by omega]
set_option maxHeartbeats 4000000 in
set_option maxRecDepth 20000 in
theorem ct_X0_init {q o : Nat} (he : ws[q]? = some (o, .inr (0, [.int 0, .int 0]))) : Ct E yX0_init cX0_init 1 none 1 0 0 [.ref o] ws (fun r w => r = none ∧ w = ws.set q (o, .inr (0, [.int 0, .int 0])) ++ []) := by
  refine Ct_of mw_X0_init rfl (Nat.le_of_ble_eq_true rfl) ?_
  refine V_aload_n dX0_init_0 rfl ?_
  refine V_objInit wd_ol_X0 wd_objI wd_objC dX0_init_1 (by decide) (Nat.le_of_ble_eq_true rfl) ?_
  refine V.eqw (nf_0 he) ?_
  exact V_vret dX0_init_4 rfl (Nat.le_of_ble_eq_true rfl) (Nat.le_of_ble_eq_true rfl) ⟨rfl, rfl⟩
set_option maxHeartbeats 4000000 in
set_option maxRecDepth 20000 in
theorem ct_X1_init {q o : Nat} (he : ws[q]? = some (o, .inr (1, [.null, .null, .null, .null, .null, .null, .null, .int 0]))) : Ct E yX1_init cX1_init 1 none 1 7 210 [.ref o] ws (fun r w => ∃ v0 v1 v2 v3 v4 v5 v6 : Nat, r = none ∧ w = ws.set q (o, .inr (1, [.ref v0, .ref v1, .ref v2, .ref v3, .ref v4, .ref v5, .ref v6, .int 0])) ++ [(v0, .inl (cI E, 30, .inl (fun _ => 0))), (v1, .inl (cI E, 30, .inl (fun _ => 0))), (v2, .inl (cI E, 30, .inl (fun _ => 0))), (v3, .inl (cI E, 30, .inl (fun _ => 0))), (v4, .inl (cI E, 30, .inl (fun _ => 0))), (v5, .inl (cI E, 30, .inl (fun _ => 0))), (v6, .inl (cI E, 30, .inl (fun _ => 0)))]) := by
  refine Ct_of mw_X1_init rfl (Nat.le_of_ble_eq_true rfl) ?_
  refine V_aload_n dX1_init_0 rfl ?_
  refine V_objInit wd_ol_X1 wd_objI wd_objC dX1_init_1 (by decide) (Nat.le_of_ble_eq_true rfl) ?_
  refine V.eqw (nf_0 he) ?_
  refine V_aload_n dX1_init_4 rfl ?_
  refine V_bipush (v := 30) dX1_init_5 (by decide) ?_
  refine V_newaI (N := 30) wd_ar_int dX1_init_7 (by decide) (by decide) (by decide) (Nat.le_of_ble_eq_true rfl) (Nat.le_of_ble_eq_true rfl) (fun v0 => ?_)
  refine V.eqw (ws' := ws.set q (o, .inr (1, [.null, .null, .null, .null, .null, .null, .null, .int 0])) ++ [(v0, .inl (cI E, 30, .inl (fun _ => 0)))]) (List.append_assoc _ _ _) ?_
  refine V_putF q fp_X1_9 rfl dX1_init_9 (nf_q he) rfl rfl (Nat.le_of_ble_eq_true rfl) ?_
  refine V.eqw (ws' := ws.set q (o, .inr (1, [.ref v0, .null, .null, .null, .null, .null, .null, .int 0])) ++ [(v0, .inl (cI E, 30, .inl (fun _ => 0)))]) (nf_sq he) ?_
  refine V_aload_n dX1_init_12 rfl ?_
  refine V_bipush (v := 30) dX1_init_13 (by decide) ?_
  refine V_newaI (N := 30) wd_ar_int dX1_init_15 (by decide) (by decide) (by decide) (Nat.le_of_ble_eq_true rfl) (Nat.le_of_ble_eq_true rfl) (fun v1 => ?_)
  refine V.eqw (ws' := ws.set q (o, .inr (1, [.ref v0, .null, .null, .null, .null, .null, .null, .int 0])) ++ [(v0, .inl (cI E, 30, .inl (fun _ => 0))), (v1, .inl (cI E, 30, .inl (fun _ => 0)))]) (List.append_assoc _ _ _) ?_
  refine V_putF q fp_X1_15 rfl dX1_init_17 (nf_q he) rfl rfl (Nat.le_of_ble_eq_true rfl) ?_
  refine V.eqw (ws' := ws.set q (o, .inr (1, [.ref v0, .ref v1, .null, .null, .null, .null, .null, .int 0])) ++ [(v0, .inl (cI E, 30, .inl (fun _ => 0))), (v1, .inl (cI E, 30, .inl (fun _ => 0)))]) (nf_sq he) ?_
  refine V_aload_n dX1_init_20 rfl ?_
  refine V_bipush (v := 30) dX1_init_21 (by decide) ?_
  refine V_newaI (N := 30) wd_ar_int dX1_init_23 (by decide) (by decide) (by decide) (Nat.le_of_ble_eq_true rfl) (Nat.le_of_ble_eq_true rfl) (fun v2 => ?_)
  refine V.eqw (ws' := ws.set q (o, .inr (1, [.ref v0, .ref v1, .null, .null, .null, .null, .null, .int 0])) ++ [(v0, .inl (cI E, 30, .inl (fun _ => 0))), (v1, .inl (cI E, 30, .inl (fun _ => 0))), (v2, .inl (cI E, 30, .inl (fun _ => 0)))]) (List.append_assoc _ _ _) ?_
  refine V_putF q fp_X1_18 rfl dX1_init_25 (nf_q he) rfl rfl (Nat.le_of_ble_eq_true rfl) ?_
  refine V.eqw (ws' := ws.set q (o, .inr (1, [.ref v0, .ref v1, .ref v2, .null, .null, .null, .null, .int 0])) ++ [(v0, .inl (cI E, 30, .inl (fun _ => 0))), (v1, .inl (cI E, 30, .inl (fun _ => 0))), (v2, .inl (cI E, 30, .inl (fun _ => 0)))]) (nf_sq he) ?_
  refine V_aload_n dX1_init_28 rfl ?_
  refine V_bipush (v := 30) dX1_init_29 (by decide) ?_
  refine V_newaI (N := 30) wd_ar_int dX1_init_31 (by decide) (by decide) (by decide) (Nat.le_of_ble_eq_true rfl) (Nat.le_of_ble_eq_true rfl) (fun v3 => ?_)
  refine V.eqw (ws' := ws.set q (o, .inr (1, [.ref v0, .ref v1, .ref v2, .null, .null, .null, .null, .int 0])) ++ [(v0, .inl (cI E, 30, .inl (fun _ => 0))), (v1, .inl (cI E, 30, .inl (fun _ => 0))), (v2, .inl (cI E, 30, .inl (fun _ => 0))), (v3, .inl (cI E, 30, .inl (fun _ => 0)))]) (List.append_assoc _ _ _) ?_
  refine V_putF q fp_X1_21 rfl dX1_init_33 (nf_q he) rfl rfl (Nat.le_of_ble_eq_true rfl) ?_
  refine V.eqw (ws' := ws.set q (o, .inr (1, [.ref v0, .ref v1, .ref v2, .ref v3, .null, .null, .null, .int 0])) ++ [(v0, .inl (cI E, 30, .inl (fun _ => 0))), (v1, .inl (cI E, 30, .inl (fun _ => 0))), (v2, .inl (cI E, 30, .inl (fun _ => 0))), (v3, .inl (cI E, 30, .inl (fun _ => 0)))]) (nf_sq he) ?_
  refine V_aload_n dX1_init_36 rfl ?_
  refine V_bipush (v := 30) dX1_init_37 (by decide) ?_
  refine V_newaI (N := 30) wd_ar_int dX1_init_39 (by decide) (by decide) (by decide) (Nat.le_of_ble_eq_true rfl) (Nat.le_of_ble_eq_true rfl) (fun v4 => ?_)
  refine V.eqw (ws' := ws.set q (o, .inr (1, [.ref v0, .ref v1, .ref v2, .ref v3, .null, .null, .null, .int 0])) ++ [(v0, .inl (cI E, 30, .inl (fun _ => 0))), (v1, .inl (cI E, 30, .inl (fun _ => 0))), (v2, .inl (cI E, 30, .inl (fun _ => 0))), (v3, .inl (cI E, 30, .inl (fun _ => 0))), (v4, .inl (cI E, 30, .inl (fun _ => 0)))]) (List.append_assoc _ _ _) ?_
  refine V_putF q fp_X1_24 rfl dX1_init_41 (nf_q he) rfl rfl (Nat.le_of_ble_eq_true rfl) ?_
  refine V.eqw (ws' := ws.set q (o, .inr (1, [.ref v0, .ref v1, .ref v2, .ref v3, .ref v4, .null, .null, .int 0])) ++ [(v0, .inl (cI E, 30, .inl (fun _ => 0))), (v1, .inl (cI E, 30, .inl (fun _ => 0))), (v2, .inl (cI E, 30, .inl (fun _ => 0))), (v3, .inl (cI E, 30, .inl (fun _ => 0))), (v4, .inl (cI E, 30, .inl (fun _ => 0)))]) (nf_sq he) ?_
  refine V_aload_n dX1_init_44 rfl ?_
  refine V_bipush (v := 30) dX1_init_45 (by decide) ?_
  refine V_newaI (N := 30) wd_ar_int dX1_init_47 (by decide) (by decide) (by decide) (Nat.le_of_ble_eq_true rfl) (Nat.le_of_ble_eq_true rfl) (fun v5 => ?_)
  refine V.eqw (ws' := ws.set q (o, .inr (1, [.ref v0, .ref v1, .ref v2, .ref v3, .ref v4, .null, .null, .int 0])) ++ [(v0, .inl (cI E, 30, .inl (fun _ => 0))), (v1, .inl (cI E, 30, .inl (fun _ => 0))), (v2, .inl (cI E, 30, .inl (fun _ => 0))), (v3, .inl (cI E, 30, .inl (fun _ => 0))), (v4, .inl (cI E, 30, .inl (fun _ => 0))), (v5, .inl (cI E, 30, .inl (fun _ => 0)))]) (List.append_assoc _ _ _) ?_
  refine V_putF q fp_X1_27 rfl dX1_init_49 (nf_q he) rfl rfl (Nat.le_of_ble_eq_true rfl) ?_
  refine V.eqw (ws' := ws.set q (o, .inr (1, [.ref v0, .ref v1, .ref v2, .ref v3, .ref v4, .ref v5, .null, .int 0])) ++ [(v0, .inl (cI E, 30, .inl (fun _ => 0))), (v1, .inl (cI E, 30, .inl (fun _ => 0))), (v2, .inl (cI E, 30, .inl (fun _ => 0))), (v3, .inl (cI E, 30, .inl (fun _ => 0))), (v4, .inl (cI E, 30, .inl (fun _ => 0))), (v5, .inl (cI E, 30, .inl (fun _ => 0)))]) (nf_sq he) ?_
  refine V_aload_n dX1_init_52 rfl ?_
  refine V_bipush (v := 30) dX1_init_53 (by decide) ?_
  refine V_newaI (N := 30) wd_ar_int dX1_init_55 (by decide) (by decide) (by decide) (Nat.le_of_ble_eq_true rfl) (Nat.le_of_ble_eq_true rfl) (fun v6 => ?_)
  refine V.eqw (ws' := ws.set q (o, .inr (1, [.ref v0, .ref v1, .ref v2, .ref v3, .ref v4, .ref v5, .null, .int 0])) ++ [(v0, .inl (cI E, 30, .inl (fun _ => 0))), (v1, .inl (cI E, 30, .inl (fun _ => 0))), (v2, .inl (cI E, 30, .inl (fun _ => 0))), (v3, .inl (cI E, 30, .inl (fun _ => 0))), (v4, .inl (cI E, 30, .inl (fun _ => 0))), (v5, .inl (cI E, 30, .inl (fun _ => 0))), (v6, .inl (cI E, 30, .inl (fun _ => 0)))]) (List.append_assoc _ _ _) ?_
  refine V_putF q fp_X1_30 rfl dX1_init_57 (nf_q he) rfl rfl (Nat.le_of_ble_eq_true rfl) ?_
  refine V.eqw (ws' := ws.set q (o, .inr (1, [.ref v0, .ref v1, .ref v2, .ref v3, .ref v4, .ref v5, .ref v6, .int 0])) ++ [(v0, .inl (cI E, 30, .inl (fun _ => 0))), (v1, .inl (cI E, 30, .inl (fun _ => 0))), (v2, .inl (cI E, 30, .inl (fun _ => 0))), (v3, .inl (cI E, 30, .inl (fun _ => 0))), (v4, .inl (cI E, 30, .inl (fun _ => 0))), (v5, .inl (cI E, 30, .inl (fun _ => 0))), (v6, .inl (cI E, 30, .inl (fun _ => 0)))]) (nf_sq he) ?_
  refine V_aload_n dX1_init_60 rfl ?_
  refine V_iconst (v := 0) dX1_init_61 (by decide) ?_
  refine V_put q fp_X1_33 dX1_init_62 (nf_q he) rfl rfl (Nat.le_of_ble_eq_true rfl) ?_
  refine V.eqw (ws' := ws.set q (o, .inr (1, [.ref v0, .ref v1, .ref v2, .ref v3, .ref v4, .ref v5, .ref v6, .int 0])) ++ [(v0, .inl (cI E, 30, .inl (fun _ => 0))), (v1, .inl (cI E, 30, .inl (fun _ => 0))), (v2, .inl (cI E, 30, .inl (fun _ => 0))), (v3, .inl (cI E, 30, .inl (fun _ => 0))), (v4, .inl (cI E, 30, .inl (fun _ => 0))), (v5, .inl (cI E, 30, .inl (fun _ => 0))), (v6, .inl (cI E, 30, .inl (fun _ => 0)))]) (nf_sq he) ?_
  exact V_vret dX1_init_65 rfl (Nat.le_of_ble_eq_true rfl) (Nat.le_of_ble_eq_true rfl) ⟨v0, v1, v2, v3, v4, v5, v6, rfl, rfl⟩
set_option maxHeartbeats 4000000 in
set_option maxRecDepth 20000 in
theorem ct_X2_init {q o : Nat} (he : ws[q]? = some (o, .inr (2, [.null, .null]))) : Ct E yX2_init cX2_init 1 none 1 2 20 [.ref o] ws (fun r w => ∃ v0 v1 : Nat, r = none ∧ w = ws.set q (o, .inr (2, [.ref v0, .ref v1])) ++ [(v0, .inl (cI E, 10, .inl (fillF (fun _ => 0) (-1) 10))), (v1, .inl (cI E, 10, .inl (fillF (fun _ => 0) (-1) 10)))]) := by
  refine Ct_of mw_X2_init rfl (Nat.le_of_ble_eq_true rfl) ?_
  refine V_aload_n dX2_init_0 rfl ?_
  refine V_objInit wd_ol_X2 wd_objI wd_objC dX2_init_1 (by decide) (Nat.le_of_ble_eq_true rfl) ?_
  refine V.eqw (nf_0 he) ?_
  refine V_aload_n dX2_init_4 rfl ?_
  refine V_bipush (v := 10) dX2_init_5 (by decide) ?_
  refine V_newaI (N := 10) wd_ar_int dX2_init_7 (by decide) (by decide) (by decide) (Nat.le_of_ble_eq_true rfl) (Nat.le_of_ble_eq_true rfl) (fun v0 => ?_)
  refine V.eqw (ws' := ws.set q (o, .inr (2, [.null, .null])) ++ [(v0, .inl (cI E, 10, .inl (fun _ => 0)))]) (List.append_assoc _ _ _) ?_
  refine V_putF q fp_X2_9 rfl dX2_init_9 (nf_q he) rfl rfl (Nat.le_of_ble_eq_true rfl) ?_
  refine V.eqw (ws' := ws.set q (o, .inr (2, [.ref v0, .null])) ++ [(v0, .inl (cI E, 10, .inl (fun _ => 0)))]) (nf_sq he) ?_
  refine V_aload_n dX2_init_12 rfl ?_
  refine V_bipush (v := 10) dX2_init_13 (by decide) ?_
  refine V_newaI (N := 10) wd_ar_int dX2_init_15 (by decide) (by decide) (by decide) (Nat.le_of_ble_eq_true rfl) (Nat.le_of_ble_eq_true rfl) (fun v1 => ?_)
  refine V.eqw (ws' := ws.set q (o, .inr (2, [.ref v0, .null])) ++ [(v0, .inl (cI E, 10, .inl (fun _ => 0))), (v1, .inl (cI E, 10, .inl (fun _ => 0)))]) (List.append_assoc _ _ _) ?_
  refine V_putF q fp_X2_15 rfl dX2_init_17 (nf_q he) rfl rfl (Nat.le_of_ble_eq_true rfl) ?_
  refine V.eqw (ws' := ws.set q (o, .inr (2, [.ref v0, .ref v1])) ++ [(v0, .inl (cI E, 10, .inl (fun _ => 0))), (v1, .inl (cI E, 10, .inl (fun _ => 0)))]) (nf_sq he) ?_
  refine V_aload_n dX2_init_20 rfl ?_
  refine V_get q fl_X2_9 dX2_init_21 (nf_q he) rfl ?_
  refine V_iconst (v := -1) dX2_init_24 (by decide) ?_
  refine V_callS mw_J7_fill_53178 ms_X2_18 dX2_init_25 (ct_fill (nf_k 0 rfl) (by decide) (-1)) rfl rfl (Nat.le_of_ble_eq_true rfl) (by decide) (by decide) (by decide) (by decide) (fun r25 w25 hp25 => ?_)
  obtain ⟨rfl, rfl⟩ := hp25
  refine V.eqw (ws' := ws.set q (o, .inr (2, [.ref v0, .ref v1])) ++ [(v0, .inl (cI E, 10, .inl (fillF (fun _ => 0) (-1) 10))), (v1, .inl (cI E, 10, .inl (fun _ => 0)))]) (nf_sk 0) ?_
  refine V_aload_n dX2_init_28 rfl ?_
  refine V_get q fl_X2_15 dX2_init_29 (nf_q he) rfl ?_
  refine V_iconst (v := -1) dX2_init_32 (by decide) ?_
  refine V_callS mw_J7_fill_53178 ms_X2_18 dX2_init_33 (ct_fill (nf_k 1 rfl) (by decide) (-1)) rfl rfl (Nat.le_of_ble_eq_true rfl) (by decide) (by decide) (by decide) (by decide) (fun r33 w33 hp33 => ?_)
  obtain ⟨rfl, rfl⟩ := hp33
  refine V.eqw (ws' := ws.set q (o, .inr (2, [.ref v0, .ref v1])) ++ [(v0, .inl (cI E, 10, .inl (fillF (fun _ => 0) (-1) 10))), (v1, .inl (cI E, 10, .inl (fillF (fun _ => 0) (-1) 10)))]) (nf_sk 1) ?_
  exact V_vret dX2_init_36 rfl (Nat.le_of_ble_eq_true rfl) (Nat.le_of_ble_eq_true rfl) ⟨v0, v1, rfl, rfl⟩
set_option maxHeartbeats 4000000 in
set_option maxRecDepth 20000 in
theorem ct_X3_init {q o : Nat} (he : ws[q]? = some (o, .inr (3, [.null, .null, .int 0]))) : Ct E yX3_init cX3_init 1 none 1 2 120 [.ref o] ws (fun r w => ∃ v0 v1 : Nat, r = none ∧ w = ws.set q (o, .inr (3, [.ref v0, .ref v1, .int 0])) ++ [(v0, .inl (cI E, 60, .inl (fun _ => 0))), (v1, .inl (cI E, 60, .inl (fun _ => 0)))]) := by
  refine Ct_of mw_X3_init rfl (Nat.le_of_ble_eq_true rfl) ?_
  refine V_aload_n dX3_init_0 rfl ?_
  refine V_objInit wd_ol_X3 wd_objI wd_objC dX3_init_1 (by decide) (Nat.le_of_ble_eq_true rfl) ?_
  refine V.eqw (nf_0 he) ?_
  refine V_aload_n dX3_init_4 rfl ?_
  refine V_bipush (v := 60) dX3_init_5 (by decide) ?_
  refine V_newaI (N := 60) wd_ar_int dX3_init_7 (by decide) (by decide) (by decide) (Nat.le_of_ble_eq_true rfl) (Nat.le_of_ble_eq_true rfl) (fun v0 => ?_)
  refine V.eqw (ws' := ws.set q (o, .inr (3, [.null, .null, .int 0])) ++ [(v0, .inl (cI E, 60, .inl (fun _ => 0)))]) (List.append_assoc _ _ _) ?_
  refine V_putF q fp_X3_9 rfl dX3_init_9 (nf_q he) rfl rfl (Nat.le_of_ble_eq_true rfl) ?_
  refine V.eqw (ws' := ws.set q (o, .inr (3, [.ref v0, .null, .int 0])) ++ [(v0, .inl (cI E, 60, .inl (fun _ => 0)))]) (nf_sq he) ?_
  refine V_aload_n dX3_init_12 rfl ?_
  refine V_bipush (v := 60) dX3_init_13 (by decide) ?_
  refine V_newaI (N := 60) wd_ar_int dX3_init_15 (by decide) (by decide) (by decide) (Nat.le_of_ble_eq_true rfl) (Nat.le_of_ble_eq_true rfl) (fun v1 => ?_)
  refine V.eqw (ws' := ws.set q (o, .inr (3, [.ref v0, .null, .int 0])) ++ [(v0, .inl (cI E, 60, .inl (fun _ => 0))), (v1, .inl (cI E, 60, .inl (fun _ => 0)))]) (List.append_assoc _ _ _) ?_
  refine V_putF q fp_X3_15 rfl dX3_init_17 (nf_q he) rfl rfl (Nat.le_of_ble_eq_true rfl) ?_
  refine V.eqw (ws' := ws.set q (o, .inr (3, [.ref v0, .ref v1, .int 0])) ++ [(v0, .inl (cI E, 60, .inl (fun _ => 0))), (v1, .inl (cI E, 60, .inl (fun _ => 0)))]) (nf_sq he) ?_
  refine V_aload_n dX3_init_20 rfl ?_
  refine V_iconst (v := 0) dX3_init_21 (by decide) ?_
  refine V_put q fp_X3_18 dX3_init_22 (nf_q he) rfl rfl (Nat.le_of_ble_eq_true rfl) ?_
  refine V.eqw (ws' := ws.set q (o, .inr (3, [.ref v0, .ref v1, .int 0])) ++ [(v0, .inl (cI E, 60, .inl (fun _ => 0))), (v1, .inl (cI E, 60, .inl (fun _ => 0)))]) (nf_sq he) ?_
  exact V_vret dX3_init_25 rfl (Nat.le_of_ble_eq_true rfl) (Nat.le_of_ble_eq_true rfl) ⟨v0, v1, rfl, rfl⟩
set_option maxHeartbeats 4000000 in
set_option maxRecDepth 20000 in
theorem ct_X4_init {q o : Nat} (he : ws[q]? = some (o, .inr (4, [.null, .int 0]))) : Ct E yX4_init cX4_init 1 none 1 1 10 [.ref o] ws (fun r w => ∃ v0 : Nat, r = none ∧ w = ws.set q (o, .inr (4, [.ref v0, .int (-1)])) ++ [(v0, .inl (cI E, 10, .inl (fun _ => 0)))]) := by
  refine Ct_of mw_X4_init rfl (Nat.le_of_ble_eq_true rfl) ?_
  refine V_aload_n dX4_init_0 rfl ?_
  refine V_objInit wd_ol_X4 wd_objI wd_objC dX4_init_1 (by decide) (Nat.le_of_ble_eq_true rfl) ?_
  refine V.eqw (nf_0 he) ?_
  refine V_aload_n dX4_init_4 rfl ?_
  refine V_bipush (v := 10) dX4_init_5 (by decide) ?_
  refine V_newaI (N := 10) wd_ar_int dX4_init_7 (by decide) (by decide) (by decide) (Nat.le_of_ble_eq_true rfl) (Nat.le_of_ble_eq_true rfl) (fun v0 => ?_)
  refine V.eqw (ws' := ws.set q (o, .inr (4, [.null, .int 0])) ++ [(v0, .inl (cI E, 10, .inl (fun _ => 0)))]) (List.append_assoc _ _ _) ?_
  refine V_putF q fp_X4_9 rfl dX4_init_9 (nf_q he) rfl rfl (Nat.le_of_ble_eq_true rfl) ?_
  refine V.eqw (ws' := ws.set q (o, .inr (4, [.ref v0, .int 0])) ++ [(v0, .inl (cI E, 10, .inl (fun _ => 0)))]) (nf_sq he) ?_
  refine V_aload_n dX4_init_12 rfl ?_
  refine V_iconst (v := -1) dX4_init_13 (by decide) ?_
  refine V_put q fp_X4_15 dX4_init_14 (nf_q he) rfl rfl (Nat.le_of_ble_eq_true rfl) ?_
  refine V.eqw (ws' := ws.set q (o, .inr (4, [.ref v0, .int (-1)])) ++ [(v0, .inl (cI E, 10, .inl (fun _ => 0)))]) (nf_sq he) ?_
  exact V_vret dX4_init_17 rfl (Nat.le_of_ble_eq_true rfl) (Nat.le_of_ble_eq_true rfl) ⟨v0, rfl, rfl⟩
set_option maxHeartbeats 4000000 in
set_option maxRecDepth 20000 in
theorem ct_X5_init {q o : Nat} (he : ws[q]? = some (o, .inr (5, [.null, .int 0]))) : Ct E yX5_init cX5_init 1 none 1 1 12 [.ref o] ws (fun r w => ∃ v0 : Nat, r = none ∧ w = ws.set q (o, .inr (5, [.ref v0, .int 0])) ++ [(v0, .inl (cI E, 12, .inl (fun _ => 0)))]) := by
  refine Ct_of mw_X5_init rfl (Nat.le_of_ble_eq_true rfl) ?_
  refine V_aload_n dX5_init_0 rfl ?_
  refine V_objInit wd_ol_X5 wd_objI wd_objC dX5_init_1 (by decide) (Nat.le_of_ble_eq_true rfl) ?_
  refine V.eqw (nf_0 he) ?_
  refine V_aload_n dX5_init_4 rfl ?_
  refine V_bipush (v := 12) dX5_init_5 (by decide) ?_
  refine V_newaI (N := 12) wd_ar_int dX5_init_7 (by decide) (by decide) (by decide) (Nat.le_of_ble_eq_true rfl) (Nat.le_of_ble_eq_true rfl) (fun v0 => ?_)
  refine V.eqw (ws' := ws.set q (o, .inr (5, [.null, .int 0])) ++ [(v0, .inl (cI E, 12, .inl (fun _ => 0)))]) (List.append_assoc _ _ _) ?_
  refine V_putF q fp_X5_9 rfl dX5_init_9 (nf_q he) rfl rfl (Nat.le_of_ble_eq_true rfl) ?_
  refine V.eqw (ws' := ws.set q (o, .inr (5, [.ref v0, .int 0])) ++ [(v0, .inl (cI E, 12, .inl (fun _ => 0)))]) (nf_sq he) ?_
  refine V_aload_n dX5_init_12 rfl ?_
  refine V_iconst (v := 0) dX5_init_13 (by decide) ?_
  refine V_put q fp_X5_15 dX5_init_14 (nf_q he) rfl rfl (Nat.le_of_ble_eq_true rfl) ?_
  refine V.eqw (ws' := ws.set q (o, .inr (5, [.ref v0, .int 0])) ++ [(v0, .inl (cI E, 12, .inl (fun _ => 0)))]) (nf_sq he) ?_
  exact V_vret dX5_init_17 rfl (Nat.le_of_ble_eq_true rfl) (Nat.le_of_ble_eq_true rfl) ⟨v0, rfl, rfl⟩
set_option maxHeartbeats 4000000 in
set_option maxRecDepth 20000 in
theorem ct_X8_init {q o : Nat} (he : ws[q]? = some (o, .inr (8, [.int 0, .null, .null, .null, .null, .null, .null, .null, .null, .null, .null, .null, .null, .null, .null, .null, .null, .null, .null, .int 0, .int 0, .int 0, .int 0, .int 0, .int 0, .int 0, .int 0, .int 0, .null, .null, .int 0, .int 0, .int 0]))) : Ct E yX8_init cX8_init 1 none 1 20 2746 [.ref o] ws (fun r w => ∃ v0 v1 v2 v3 v4 v5 v6 v7 v8 v9 v10 v11 v12 v13 v14 v15 v16 v17 v18 v19 : Nat, r = none ∧ w = ws.set q (o, .inr (8, [.int 0, .ref v0, .ref v1, .ref v2, .ref v3, .ref v4, .ref v5, .ref v6, .ref v7, .ref v8, .ref v9, .ref v10, .ref v11, .ref v12, .ref v13, .ref v14, .ref v15, .ref v16, .ref v17, .int 0, .int 0, .int 0, .int 0, .int 0, .int 0, .int 0, .int 0, .int 0, .ref v18, .ref v19, .int 0, .int 0, .int 0])) ++ [(v0, .inl (cI E, 10, .inl (fun _ => 0))), (v1, .inl (cI E, 10, .inl (fun _ => 0))), (v2, .inl (cI E, 10, .inl (fun _ => 0))), (v3, .inl (cI E, 10, .inl (fun _ => 0))), (v4, .inl (cI E, 10, .inl (fun _ => 0))), (v5, .inl (cI E, 30, .inl (fun _ => 0))), (v6, .inl (cI E, 30, .inl (fun _ => 0))), (v7, .inl (cI E, 30, .inl (fun _ => 0))), (v8, .inl (cI E, 30, .inl (fun _ => 0))), (v9, .inl (cI E, 30, .inl (fun _ => 0))), (v10, .inl (cI E, 12, .inl (fun _ => 0))), (v11, .inl (cI E, 60, .inl (fun _ => 0))), (v12, .inl (cI E, 60, .inl (fun _ => 0))), (v13, .inl (cI E, 60, .inl (fun _ => 0))), (v14, .inl (cI E, 60, .inl (fun _ => 0))), (v15, .inl (cI E, 600, .inl (fun _ => 0))), (v16, .inl (cI E, 600, .inl (fun _ => 0))), (v17, .inl (cZ E, 60, .inl (fun _ => 0))), (v18, .inl (cZ E, 1024, .inl (fun _ => 0))), (v19, .inl (cI E, 10, .inl (fun _ => 0)))]) := by
  refine Ct_of mw_X8_init rfl (Nat.le_of_ble_eq_true rfl) ?_
  refine V_aload_n dX8_init_0 rfl ?_
  refine V_objInit wd_ol_X8 wd_objI wd_objC dX8_init_1 (by decide) (Nat.le_of_ble_eq_true rfl) ?_
  refine V.eqw (nf_0 he) ?_
  refine V_aload_n dX8_init_4 rfl ?_
  refine V_bipush (v := 10) dX8_init_5 (by decide) ?_
  refine V_newaI (N := 10) wd_ar_int dX8_init_7 (by decide) (by decide) (by decide) (Nat.le_of_ble_eq_true rfl) (Nat.le_of_ble_eq_true rfl) (fun v0 => ?_)
  refine V.eqw (ws' := ws.set q (o, .inr (8, [.int 0, .null, .null, .null, .null, .null, .null, .null, .null, .null, .null, .null, .null, .null, .null, .null, .null, .null, .null, .int 0, .int 0, .int 0, .int 0, .int 0, .int 0, .int 0, .int 0, .int 0, .null, .null, .int 0, .int 0, .int 0])) ++ [(v0, .inl (cI E, 10, .inl (fun _ => 0)))]) (List.append_assoc _ _ _) ?_
  refine V_putF q fp_X8_9 rfl dX8_init_9 (nf_q he) rfl rfl (Nat.le_of_ble_eq_true rfl) ?_
  refine V.eqw (ws' := ws.set q (o, .inr (8, [.int 0, .ref v0, .null, .null, .null, .null, .null, .null, .null, .null, .null, .null, .null, .null, .null, .null, .null, .null, .null, .int 0, .int 0, .int 0, .int 0, .int 0, .int 0, .int 0, .int 0, .int 0, .null, .null, .int 0, .int 0, .int 0])) ++ [(v0, .inl (cI E, 10, .inl (fun _ => 0)))]) (nf_sq he) ?_
  refine V_aload_n dX8_init_12 rfl ?_
  refine V_bipush (v := 10) dX8_init_13 (by decide) ?_
  refine V_newaI (N := 10) wd_ar_int dX8_init_15 (by decide) (by decide) (by decide) (Nat.le_of_ble_eq_true rfl) (Nat.le_of_ble_eq_true rfl) (fun v1 => ?_)
  refine V.eqw (ws' := ws.set q (o, .inr (8, [.int 0, .ref v0, .null, .null, .null, .null, .null, .null, .null, .null, .null, .null, .null, .null, .null, .null, .null, .null, .null, .int 0, .int 0, .int 0, .int 0, .int 0, .int 0, .int 0, .int 0, .int 0, .null, .null, .int 0, .int 0, .int 0])) ++ [(v0, .inl (cI E, 10, .inl (fun _ => 0))), (v1, .inl (cI E, 10, .inl (fun _ => 0)))]) (List.append_assoc _ _ _) ?_
  refine V_putF q fp_X8_13 rfl dX8_init_17 (nf_q he) rfl rfl (Nat.le_of_ble_eq_true rfl) ?_
  refine V.eqw (ws' := ws.set q (o, .inr (8, [.int 0, .ref v0, .ref v1, .null, .null, .null, .null, .null, .null, .null, .null, .null, .null, .null, .null, .null, .null, .null, .null, .int 0, .int 0, .int 0, .int 0, .int 0, .int 0, .int 0, .int 0, .int 0, .null, .null, .int 0, .int 0, .int 0])) ++ [(v0, .inl (cI E, 10, .inl (fun _ => 0))), (v1, .inl (cI E, 10, .inl (fun _ => 0)))]) (nf_sq he) ?_
  refine V_aload_n dX8_init_20 rfl ?_
  refine V_bipush (v := 10) dX8_init_21 (by decide) ?_
  refine V_newaI (N := 10) wd_ar_int dX8_init_23 (by decide) (by decide) (by decide) (Nat.le_of_ble_eq_true rfl) (Nat.le_of_ble_eq_true rfl) (fun v2 => ?_)
  refine V.eqw (ws' := ws.set q (o, .inr (8, [.int 0, .ref v0, .ref v1, .null, .null, .null, .null, .null, .null, .null, .null, .null, .null, .null, .null, .null, .null, .null, .null, .int 0, .int 0, .int 0, .int 0, .int 0, .int 0, .int 0, .int 0, .int 0, .null, .null, .int 0, .int 0, .int 0])) ++ [(v0, .inl (cI E, 10, .inl (fun _ => 0))), (v1, .inl (cI E, 10, .inl (fun _ => 0))), (v2, .inl (cI E, 10, .inl (fun _ => 0)))]) (List.append_assoc _ _ _) ?_
  refine V_putF q fp_X8_16 rfl dX8_init_25 (nf_q he) rfl rfl (Nat.le_of_ble_eq_true rfl) ?_
  refine V.eqw (ws' := ws.set q (o, .inr (8, [.int 0, .ref v0, .ref v1, .ref v2, .null, .null, .null, .null, .null, .null, .null, .null, .null, .null, .null, .null, .null, .null, .null, .int 0, .int 0, .int 0, .int 0, .int 0, .int 0, .int 0, .int 0, .int 0, .null, .null, .int 0, .int 0, .int 0])) ++ [(v0, .inl (cI E, 10, .inl (fun _ => 0))), (v1, .inl (cI E, 10, .inl (fun _ => 0))), (v2, .inl (cI E, 10, .inl (fun _ => 0)))]) (nf_sq he) ?_
  refine V_aload_n dX8_init_28 rfl ?_
  refine V_bipush (v := 10) dX8_init_29 (by decide) ?_
  refine V_newaI (N := 10) wd_ar_int dX8_init_31 (by decide) (by decide) (by decide) (Nat.le_of_ble_eq_true rfl) (Nat.le_of_ble_eq_true rfl) (fun v3 => ?_)
  refine V.eqw (ws' := ws.set q (o, .inr (8, [.int 0, .ref v0, .ref v1, .ref v2, .null, .null, .null, .null, .null, .null, .null, .null, .null, .null, .null, .null, .null, .null, .null, .int 0, .int 0, .int 0, .int 0, .int 0, .int 0, .int 0, .int 0, .int 0, .null, .null, .int 0, .int 0, .int 0])) ++ [(v0, .inl (cI E, 10, .inl (fun _ => 0))), (v1, .inl (cI E, 10, .inl (fun _ => 0))), (v2, .inl (cI E, 10, .inl (fun _ => 0))), (v3, .inl (cI E, 10, .inl (fun _ => 0)))]) (List.append_assoc _ _ _) ?_
  refine V_putF q fp_X8_19 rfl dX8_init_33 (nf_q he) rfl rfl (Nat.le_of_ble_eq_true rfl) ?_
  refine V.eqw (ws' := ws.set q (o, .inr (8, [.int 0, .ref v0, .ref v1, .ref v2, .ref v3, .null, .null, .null, .null, .null, .null, .null, .null, .null, .null, .null, .null, .null, .null, .int 0, .int 0, .int 0, .int 0, .int 0, .int 0, .int 0, .int 0, .int 0, .null, .null, .int 0, .int 0, .int 0])) ++ [(v0, .inl (cI E, 10, .inl (fun _ => 0))), (v1, .inl (cI E, 10, .inl (fun _ => 0))), (v2, .inl (cI E, 10, .inl (fun _ => 0))), (v3, .inl (cI E, 10, .inl (fun _ => 0)))]) (nf_sq he) ?_
  refine V_aload_n dX8_init_36 rfl ?_
  refine V_bipush (v := 10) dX8_init_37 (by decide) ?_
  refine V_newaI (N := 10) wd_ar_int dX8_init_39 (by decide) (by decide) (by decide) (Nat.le_of_ble_eq_true rfl) (Nat.le_of_ble_eq_true rfl) (fun v4 => ?_)
  refine V.eqw (ws' := ws.set q (o, .inr (8, [.int 0, .ref v0, .ref v1, .ref v2, .ref v3, .null, .null, .null, .null, .null, .null, .null, .null, .null, .null, .null, .null, .null, .null, .int 0, .int 0, .int 0, .int 0, .int 0, .int 0, .int 0, .int 0, .int 0, .null, .null, .int 0, .int 0, .int 0])) ++ [(v0, .inl (cI E, 10, .inl (fun _ => 0))), (v1, .inl (cI E, 10, .inl (fun _ => 0))), (v2, .inl (cI E, 10, .inl (fun _ => 0))), (v3, .inl (cI E, 10, .inl (fun _ => 0))), (v4, .inl (cI E, 10, .inl (fun _ => 0)))]) (List.append_assoc _ _ _) ?_
  refine V_putF q fp_X8_22 rfl dX8_init_41 (nf_q he) rfl rfl (Nat.le_of_ble_eq_true rfl) ?_
  refine V.eqw (ws' := ws.set q (o, .inr (8, [.int 0, .ref v0, .ref v1, .ref v2, .ref v3, .ref v4, .null, .null, .null, .null, .null, .null, .null, .null, .null, .null, .null, .null, .null, .int 0, .int 0, .int 0, .int 0, .int 0, .int 0, .int 0, .int 0, .int 0, .null, .null, .int 0, .int 0, .int 0])) ++ [(v0, .inl (cI E, 10, .inl (fun _ => 0))), (v1, .inl (cI E, 10, .inl (fun _ => 0))), (v2, .inl (cI E, 10, .inl (fun _ => 0))), (v3, .inl (cI E, 10, .inl (fun _ => 0))), (v4, .inl (cI E, 10, .inl (fun _ => 0)))]) (nf_sq he) ?_
  refine V_aload_n dX8_init_44 rfl ?_
  refine V_bipush (v := 30) dX8_init_45 (by decide) ?_
  refine V_newaI (N := 30) wd_ar_int dX8_init_47 (by decide) (by decide) (by decide) (Nat.le_of_ble_eq_true rfl) (Nat.le_of_ble_eq_true rfl) (fun v5 => ?_)
  refine V.eqw (ws' := ws.set q (o, .inr (8, [.int 0, .ref v0, .ref v1, .ref v2, .ref v3, .ref v4, .null, .null, .null, .null, .null, .null, .null, .null, .null, .null, .null, .null, .null, .int 0, .int 0, .int 0, .int 0, .int 0, .int 0, .int 0, .int 0, .int 0, .null, .null, .int 0, .int 0, .int 0])) ++ [(v0, .inl (cI E, 10, .inl (fun _ => 0))), (v1, .inl (cI E, 10, .inl (fun _ => 0))), (v2, .inl (cI E, 10, .inl (fun _ => 0))), (v3, .inl (cI E, 10, .inl (fun _ => 0))), (v4, .inl (cI E, 10, .inl (fun _ => 0))), (v5, .inl (cI E, 30, .inl (fun _ => 0)))]) (List.append_assoc _ _ _) ?_
  refine V_putF q fp_X8_25 rfl dX8_init_49 (nf_q he) rfl rfl (Nat.le_of_ble_eq_true rfl) ?_
  refine V.eqw (ws' := ws.set q (o, .inr (8, [.int 0, .ref v0, .ref v1, .ref v2, .ref v3, .ref v4, .ref v5, .null, .null, .null, .null, .null, .null, .null, .null, .null, .null, .null, .null, .int 0, .int 0, .int 0, .int 0, .int 0, .int 0, .int 0, .int 0, .int 0, .null, .null, .int 0, .int 0, .int 0])) ++ [(v0, .inl (cI E, 10, .inl (fun _ => 0))), (v1, .inl (cI E, 10, .inl (fun _ => 0))), (v2, .inl (cI E, 10, .inl (fun _ => 0))), (v3, .inl (cI E, 10, .inl (fun _ => 0))), (v4, .inl (cI E, 10, .inl (fun _ => 0))), (v5, .inl (cI E, 30, .inl (fun _ => 0)))]) (nf_sq he) ?_
  refine V_aload_n dX8_init_52 rfl ?_
  refine V_bipush (v := 30) dX8_init_53 (by decide) ?_
  refine V_newaI (N := 30) wd_ar_int dX8_init_55 (by decide) (by decide) (by decide) (Nat.le_of_ble_eq_true rfl) (Nat.le_of_ble_eq_true rfl) (fun v6 => ?_)
  refine V.eqw (ws' := ws.set q (o, .inr (8, [.int 0, .ref v0, .ref v1, .ref v2, .ref v3, .ref v4, .ref v5, .null, .null, .null, .null, .null, .null, .null, .null, .null, .null, .null, .null, .int 0, .int 0, .int 0, .int 0, .int 0, .int 0, .int 0, .int 0, .int 0, .null, .null, .int 0, .int 0, .int 0])) ++ [(v0, .inl (cI E, 10, .inl (fun _ => 0))), (v1, .inl (cI E, 10, .inl (fun _ => 0))), (v2, .inl (cI E, 10, .inl (fun _ => 0))), (v3, .inl (cI E, 10, .inl (fun _ => 0))), (v4, .inl (cI E, 10, .inl (fun _ => 0))), (v5, .inl (cI E, 30, .inl (fun _ => 0))), (v6, .inl (cI E, 30, .inl (fun _ => 0)))]) (List.append_assoc _ _ _) ?_
  refine V_putF q fp_X8_28 rfl dX8_init_57 (nf_q he) rfl rfl (Nat.le_of_ble_eq_true rfl) ?_
  refine V.eqw (ws' := ws.set q (o, .inr (8, [.int 0, .ref v0, .ref v1, .ref v2, .ref v3, .ref v4, .ref v5, .ref v6, .null, .null, .null, .null, .null, .null, .null, .null, .null, .null, .null, .int 0, .int 0, .int 0, .int 0, .int 0, .int 0, .int 0, .int 0, .int 0, .null, .null, .int 0, .int 0, .int 0])) ++ [(v0, .inl (cI E, 10, .inl (fun _ => 0))), (v1, .inl (cI E, 10, .inl (fun _ => 0))), (v2, .inl (cI E, 10, .inl (fun _ => 0))), (v3, .inl (cI E, 10, .inl (fun _ => 0))), (v4, .inl (cI E, 10, .inl (fun _ => 0))), (v5, .inl (cI E, 30, .inl (fun _ => 0))), (v6, .inl (cI E, 30, .inl (fun _ => 0)))]) (nf_sq he) ?_
  refine V_aload_n dX8_init_60 rfl ?_
  refine V_bipush (v := 30) dX8_init_61 (by decide) ?_
  refine V_newaI (N := 30) wd_ar_int dX8_init_63 (by decide) (by decide) (by decide) (Nat.le_of_ble_eq_true rfl) (Nat.le_of_ble_eq_true rfl) (fun v7 => ?_)
  refine V.eqw (ws' := ws.set q (o, .inr (8, [.int 0, .ref v0, .ref v1, .ref v2, .ref v3, .ref v4, .ref v5, .ref v6, .null, .null, .null, .null, .null, .null, .null, .null, .null, .null, .null, .int 0, .int 0, .int 0, .int 0, .int 0, .int 0, .int 0, .int 0, .int 0, .null, .null, .int 0, .int 0, .int 0])) ++ [(v0, .inl (cI E, 10, .inl (fun _ => 0))), (v1, .inl (cI E, 10, .inl (fun _ => 0))), (v2, .inl (cI E, 10, .inl (fun _ => 0))), (v3, .inl (cI E, 10, .inl (fun _ => 0))), (v4, .inl (cI E, 10, .inl (fun _ => 0))), (v5, .inl (cI E, 30, .inl (fun _ => 0))), (v6, .inl (cI E, 30, .inl (fun _ => 0))), (v7, .inl (cI E, 30, .inl (fun _ => 0)))]) (List.append_assoc _ _ _) ?_
  refine V_putF q fp_X8_31 rfl dX8_init_65 (nf_q he) rfl rfl (Nat.le_of_ble_eq_true rfl) ?_
  refine V.eqw (ws' := ws.set q (o, .inr (8, [.int 0, .ref v0, .ref v1, .ref v2, .ref v3, .ref v4, .ref v5, .ref v6, .ref v7, .null, .null, .null, .null, .null, .null, .null, .null, .null, .null, .int 0, .int 0, .int 0, .int 0, .int 0, .int 0, .int 0, .int 0, .int 0, .null, .null, .int 0, .int 0, .int 0])) ++ [(v0, .inl (cI E, 10, .inl (fun _ => 0))), (v1, .inl (cI E, 10, .inl (fun _ => 0))), (v2, .inl (cI E, 10, .inl (fun _ => 0))), (v3, .inl (cI E, 10, .inl (fun _ => 0))), (v4, .inl (cI E, 10, .inl (fun _ => 0))), (v5, .inl (cI E, 30, .inl (fun _ => 0))), (v6, .inl (cI E, 30, .inl (fun _ => 0))), (v7, .inl (cI E, 30, .inl (fun _ => 0)))]) (nf_sq he) ?_
  refine V_aload_n dX8_init_68 rfl ?_
  refine V_bipush (v := 30) dX8_init_69 (by decide) ?_
  refine V_newaI (N := 30) wd_ar_int dX8_init_71 (by decide) (by decide) (by decide) (Nat.le_of_ble_eq_true rfl) (Nat.le_of_ble_eq_true rfl) (fun v8 => ?_)
  refine V.eqw (ws' := ws.set q (o, .inr (8, [.int 0, .ref v0, .ref v1, .ref v2, .ref v3, .ref v4, .ref v5, .ref v6, .ref v7, .null, .null, .null, .null, .null, .null, .null, .null, .null, .null, .int 0, .int 0, .int 0, .int 0, .int 0, .int 0, .int 0, .int 0, .int 0, .null, .null, .int 0, .int 0, .int 0])) ++ [(v0, .inl (cI E, 10, .inl (fun _ => 0))), (v1, .inl (cI E, 10, .inl (fun _ => 0))), (v2, .inl (cI E, 10, .inl (fun _ => 0))), (v3, .inl (cI E, 10, .inl (fun _ => 0))), (v4, .inl (cI E, 10, .inl (fun _ => 0))), (v5, .inl (cI E, 30, .inl (fun _ => 0))), (v6, .inl (cI E, 30, .inl (fun _ => 0))), (v7, .inl (cI E, 30, .inl (fun _ => 0))), (v8, .inl (cI E, 30, .inl (fun _ => 0)))]) (List.append_assoc _ _ _) ?_
  refine V_putF q fp_X8_34 rfl dX8_init_73 (nf_q he) rfl rfl (Nat.le_of_ble_eq_true rfl) ?_
  refine V.eqw (ws' := ws.set q (o, .inr (8, [.int 0, .ref v0, .ref v1, .ref v2, .ref v3, .ref v4, .ref v5, .ref v6, .ref v7, .ref v8, .null, .null, .null, .null, .null, .null, .null, .null, .null, .int 0, .int 0, .int 0, .int 0, .int 0, .int 0, .int 0, .int 0, .int 0, .null, .null, .int 0, .int 0, .int 0])) ++ [(v0, .inl (cI E, 10, .inl (fun _ => 0))), (v1, .inl (cI E, 10, .inl (fun _ => 0))), (v2, .inl (cI E, 10, .inl (fun _ => 0))), (v3, .inl (cI E, 10, .inl (fun _ => 0))), (v4, .inl (cI E, 10, .inl (fun _ => 0))), (v5, .inl (cI E, 30, .inl (fun _ => 0))), (v6, .inl (cI E, 30, .inl (fun _ => 0))), (v7, .inl (cI E, 30, .inl (fun _ => 0))), (v8, .inl (cI E, 30, .inl (fun _ => 0)))]) (nf_sq he) ?_
  refine V_aload_n dX8_init_76 rfl ?_
  refine V_bipush (v := 30) dX8_init_77 (by decide) ?_
  refine V_newaI (N := 30) wd_ar_int dX8_init_79 (by decide) (by decide) (by decide) (Nat.le_of_ble_eq_true rfl) (Nat.le_of_ble_eq_true rfl) (fun v9 => ?_)
  refine V.eqw (ws' := ws.set q (o, .inr (8, [.int 0, .ref v0, .ref v1, .ref v2, .ref v3, .ref v4, .ref v5, .ref v6, .ref v7, .ref v8, .null, .null, .null, .null, .null, .null, .null, .null, .null, .int 0, .int 0, .int 0, .int 0, .int 0, .int 0, .int 0, .int 0, .int 0, .null, .null, .int 0, .int 0, .int 0])) ++ [(v0, .inl (cI E, 10, .inl (fun _ => 0))), (v1, .inl (cI E, 10, .inl (fun _ => 0))), (v2, .inl (cI E, 10, .inl (fun _ => 0))), (v3, .inl (cI E, 10, .inl (fun _ => 0))), (v4, .inl (cI E, 10, .inl (fun _ => 0))), (v5, .inl (cI E, 30, .inl (fun _ => 0))), (v6, .inl (cI E, 30, .inl (fun _ => 0))), (v7, .inl (cI E, 30, .inl (fun _ => 0))), (v8, .inl (cI E, 30, .inl (fun _ => 0))), (v9, .inl (cI E, 30, .inl (fun _ => 0)))]) (List.append_assoc _ _ _) ?_
  refine V_putF q fp_X8_37 rfl dX8_init_81 (nf_q he) rfl rfl (Nat.le_of_ble_eq_true rfl) ?_
  refine V.eqw (ws' := ws.set q (o, .inr (8, [.int 0, .ref v0, .ref v1, .ref v2, .ref v3, .ref v4, .ref v5, .ref v6, .ref v7, .ref v8, .ref v9, .null, .null, .null, .null, .null, .null, .null, .null, .int 0, .int 0, .int 0, .int 0, .int 0, .int 0, .int 0, .int 0, .int 0, .null, .null, .int 0, .int 0, .int 0])) ++ [(v0, .inl (cI E, 10, .inl (fun _ => 0))), (v1, .inl (cI E, 10, .inl (fun _ => 0))), (v2, .inl (cI E, 10, .inl (fun _ => 0))), (v3, .inl (cI E, 10, .inl (fun _ => 0))), (v4, .inl (cI E, 10, .inl (fun _ => 0))), (v5, .inl (cI E, 30, .inl (fun _ => 0))), (v6, .inl (cI E, 30, .inl (fun _ => 0))), (v7, .inl (cI E, 30, .inl (fun _ => 0))), (v8, .inl (cI E, 30, .inl (fun _ => 0))), (v9, .inl (cI E, 30, .inl (fun _ => 0)))]) (nf_sq he) ?_
  refine V_aload_n dX8_init_84 rfl ?_
  refine V_bipush (v := 12) dX8_init_85 (by decide) ?_
  refine V_newaI (N := 12) wd_ar_int dX8_init_87 (by decide) (by decide) (by decide) (Nat.le_of_ble_eq_true rfl) (Nat.le_of_ble_eq_true rfl) (fun v10 => ?_)
  refine V.eqw (ws' := ws.set q (o, .inr (8, [.int 0, .ref v0, .ref v1, .ref v2, .ref v3, .ref v4, .ref v5, .ref v6, .ref v7, .ref v8, .ref v9, .null, .null, .null, .null, .null, .null, .null, .null, .int 0, .int 0, .int 0, .int 0, .int 0, .int 0, .int 0, .int 0, .int 0, .null, .null, .int 0, .int 0, .int 0])) ++ [(v0, .inl (cI E, 10, .inl (fun _ => 0))), (v1, .inl (cI E, 10, .inl (fun _ => 0))), (v2, .inl (cI E, 10, .inl (fun _ => 0))), (v3, .inl (cI E, 10, .inl (fun _ => 0))), (v4, .inl (cI E, 10, .inl (fun _ => 0))), (v5, .inl (cI E, 30, .inl (fun _ => 0))), (v6, .inl (cI E, 30, .inl (fun _ => 0))), (v7, .inl (cI E, 30, .inl (fun _ => 0))), (v8, .inl (cI E, 30, .inl (fun _ => 0))), (v9, .inl (cI E, 30, .inl (fun _ => 0))), (v10, .inl (cI E, 12, .inl (fun _ => 0)))]) (List.append_assoc _ _ _) ?_
  refine V_putF q fp_X8_40 rfl dX8_init_89 (nf_q he) rfl rfl (Nat.le_of_ble_eq_true rfl) ?_
  refine V.eqw (ws' := ws.set q (o, .inr (8, [.int 0, .ref v0, .ref v1, .ref v2, .ref v3, .ref v4, .ref v5, .ref v6, .ref v7, .ref v8, .ref v9, .ref v10, .null, .null, .null, .null, .null, .null, .null, .int 0, .int 0, .int 0, .int 0, .int 0, .int 0, .int 0, .int 0, .int 0, .null, .null, .int 0, .int 0, .int 0])) ++ [(v0, .inl (cI E, 10, .inl (fun _ => 0))), (v1, .inl (cI E, 10, .inl (fun _ => 0))), (v2, .inl (cI E, 10, .inl (fun _ => 0))), (v3, .inl (cI E, 10, .inl (fun _ => 0))), (v4, .inl (cI E, 10, .inl (fun _ => 0))), (v5, .inl (cI E, 30, .inl (fun _ => 0))), (v6, .inl (cI E, 30, .inl (fun _ => 0))), (v7, .inl (cI E, 30, .inl (fun _ => 0))), (v8, .inl (cI E, 30, .inl (fun _ => 0))), (v9, .inl (cI E, 30, .inl (fun _ => 0))), (v10, .inl (cI E, 12, .inl (fun _ => 0)))]) (nf_sq he) ?_
  refine V_aload_n dX8_init_92 rfl ?_
  refine V_bipush (v := 60) dX8_init_93 (by decide) ?_
  refine V_newaI (N := 60) wd_ar_int dX8_init_95 (by decide) (by decide) (by decide) (Nat.le_of_ble_eq_true rfl) (Nat.le_of_ble_eq_true rfl) (fun v11 => ?_)
  refine V.eqw (ws' := ws.set q (o, .inr (8, [.int 0, .ref v0, .ref v1, .ref v2, .ref v3, .ref v4, .ref v5, .ref v6, .ref v7, .ref v8, .ref v9, .ref v10, .null, .null, .null, .null, .null, .null, .null, .int 0, .int 0, .int 0, .int 0, .int 0, .int 0, .int 0, .int 0, .int 0, .null, .null, .int 0, .int 0, .int 0])) ++ [(v0, .inl (cI E, 10, .inl (fun _ => 0))), (v1, .inl (cI E, 10, .inl (fun _ => 0))), (v2, .inl (cI E, 10, .inl (fun _ => 0))), (v3, .inl (cI E, 10, .inl (fun _ => 0))), (v4, .inl (cI E, 10, .inl (fun _ => 0))), (v5, .inl (cI E, 30, .inl (fun _ => 0))), (v6, .inl (cI E, 30, .inl (fun _ => 0))), (v7, .inl (cI E, 30, .inl (fun _ => 0))), (v8, .inl (cI E, 30, .inl (fun _ => 0))), (v9, .inl (cI E, 30, .inl (fun _ => 0))), (v10, .inl (cI E, 12, .inl (fun _ => 0))), (v11, .inl (cI E, 60, .inl (fun _ => 0)))]) (List.append_assoc _ _ _) ?_
  refine V_putF q fp_X8_43 rfl dX8_init_97 (nf_q he) rfl rfl (Nat.le_of_ble_eq_true rfl) ?_
  refine V.eqw (ws' := ws.set q (o, .inr (8, [.int 0, .ref v0, .ref v1, .ref v2, .ref v3, .ref v4, .ref v5, .ref v6, .ref v7, .ref v8, .ref v9, .ref v10, .ref v11, .null, .null, .null, .null, .null, .null, .int 0, .int 0, .int 0, .int 0, .int 0, .int 0, .int 0, .int 0, .int 0, .null, .null, .int 0, .int 0, .int 0])) ++ [(v0, .inl (cI E, 10, .inl (fun _ => 0))), (v1, .inl (cI E, 10, .inl (fun _ => 0))), (v2, .inl (cI E, 10, .inl (fun _ => 0))), (v3, .inl (cI E, 10, .inl (fun _ => 0))), (v4, .inl (cI E, 10, .inl (fun _ => 0))), (v5, .inl (cI E, 30, .inl (fun _ => 0))), (v6, .inl (cI E, 30, .inl (fun _ => 0))), (v7, .inl (cI E, 30, .inl (fun _ => 0))), (v8, .inl (cI E, 30, .inl (fun _ => 0))), (v9, .inl (cI E, 30, .inl (fun _ => 0))), (v10, .inl (cI E, 12, .inl (fun _ => 0))), (v11, .inl (cI E, 60, .inl (fun _ => 0)))]) (nf_sq he) ?_
  refine V_aload_n dX8_init_100 rfl ?_
  refine V_bipush (v := 60) dX8_init_101 (by decide) ?_
  refine V_newaI (N := 60) wd_ar_int dX8_init_103 (by decide) (by decide) (by decide) (Nat.le_of_ble_eq_true rfl) (Nat.le_of_ble_eq_true rfl) (fun v12 => ?_)
  refine V.eqw (ws' := ws.set q (o, .inr (8, [.int 0, .ref v0, .ref v1, .ref v2, .ref v3, .ref v4, .ref v5, .ref v6, .ref v7, .ref v8, .ref v9, .ref v10, .ref v11, .null, .null, .null, .null, .null, .null, .int 0, .int 0, .int 0, .int 0, .int 0, .int 0, .int 0, .int 0, .int 0, .null, .null, .int 0, .int 0, .int 0])) ++ [(v0, .inl (cI E, 10, .inl (fun _ => 0))), (v1, .inl (cI E, 10, .inl (fun _ => 0))), (v2, .inl (cI E, 10, .inl (fun _ => 0))), (v3, .inl (cI E, 10, .inl (fun _ => 0))), (v4, .inl (cI E, 10, .inl (fun _ => 0))), (v5, .inl (cI E, 30, .inl (fun _ => 0))), (v6, .inl (cI E, 30, .inl (fun _ => 0))), (v7, .inl (cI E, 30, .inl (fun _ => 0))), (v8, .inl (cI E, 30, .inl (fun _ => 0))), (v9, .inl (cI E, 30, .inl (fun _ => 0))), (v10, .inl (cI E, 12, .inl (fun _ => 0))), (v11, .inl (cI E, 60, .inl (fun _ => 0))), (v12, .inl (cI E, 60, .inl (fun _ => 0)))]) (List.append_assoc _ _ _) ?_
  refine V_putF q fp_X8_46 rfl dX8_init_105 (nf_q he) rfl rfl (Nat.le_of_ble_eq_true rfl) ?_
  refine V.eqw (ws' := ws.set q (o, .inr (8, [.int 0, .ref v0, .ref v1, .ref v2, .ref v3, .ref v4, .ref v5, .ref v6, .ref v7, .ref v8, .ref v9, .ref v10, .ref v11, .ref v12, .null, .null, .null, .null, .null, .int 0, .int 0, .int 0, .int 0, .int 0, .int 0, .int 0, .int 0, .int 0, .null, .null, .int 0, .int 0, .int 0])) ++ [(v0, .inl (cI E, 10, .inl (fun _ => 0))), (v1, .inl (cI E, 10, .inl (fun _ => 0))), (v2, .inl (cI E, 10, .inl (fun _ => 0))), (v3, .inl (cI E, 10, .inl (fun _ => 0))), (v4, .inl (cI E, 10, .inl (fun _ => 0))), (v5, .inl (cI E, 30, .inl (fun _ => 0))), (v6, .inl (cI E, 30, .inl (fun _ => 0))), (v7, .inl (cI E, 30, .inl (fun _ => 0))), (v8, .inl (cI E, 30, .inl (fun _ => 0))), (v9, .inl (cI E, 30, .inl (fun _ => 0))), (v10, .inl (cI E, 12, .inl (fun _ => 0))), (v11, .inl (cI E, 60, .inl (fun _ => 0))), (v12, .inl (cI E, 60, .inl (fun _ => 0)))]) (nf_sq he) ?_
  refine V_aload_n dX8_init_108 rfl ?_
  refine V_bipush (v := 60) dX8_init_109 (by decide) ?_
  refine V_newaI (N := 60) wd_ar_int dX8_init_111 (by decide) (by decide) (by decide) (Nat.le_of_ble_eq_true rfl) (Nat.le_of_ble_eq_true rfl) (fun v13 => ?_)
  refine V.eqw (ws' := ws.set q (o, .inr (8, [.int 0, .ref v0, .ref v1, .ref v2, .ref v3, .ref v4, .ref v5, .ref v6, .ref v7, .ref v8, .ref v9, .ref v10, .ref v11, .ref v12, .null, .null, .null, .null, .null, .int 0, .int 0, .int 0, .int 0, .int 0, .int 0, .int 0, .int 0, .int 0, .null, .null, .int 0, .int 0, .int 0])) ++ [(v0, .inl (cI E, 10, .inl (fun _ => 0))), (v1, .inl (cI E, 10, .inl (fun _ => 0))), (v2, .inl (cI E, 10, .inl (fun _ => 0))), (v3, .inl (cI E, 10, .inl (fun _ => 0))), (v4, .inl (cI E, 10, .inl (fun _ => 0))), (v5, .inl (cI E, 30, .inl (fun _ => 0))), (v6, .inl (cI E, 30, .inl (fun _ => 0))), (v7, .inl (cI E, 30, .inl (fun _ => 0))), (v8, .inl (cI E, 30, .inl (fun _ => 0))), (v9, .inl (cI E, 30, .inl (fun _ => 0))), (v10, .inl (cI E, 12, .inl (fun _ => 0))), (v11, .inl (cI E, 60, .inl (fun _ => 0))), (v12, .inl (cI E, 60, .inl (fun _ => 0))), (v13, .inl (cI E, 60, .inl (fun _ => 0)))]) (List.append_assoc _ _ _) ?_
  refine V_putF q fp_X8_49 rfl dX8_init_113 (nf_q he) rfl rfl (Nat.le_of_ble_eq_true rfl) ?_
  refine V.eqw (ws' := ws.set q (o, .inr (8, [.int 0, .ref v0, .ref v1, .ref v2, .ref v3, .ref v4, .ref v5, .ref v6, .ref v7, .ref v8, .ref v9, .ref v10, .ref v11, .ref v12, .ref v13, .null, .null, .null, .null, .int 0, .int 0, .int 0, .int 0, .int 0, .int 0, .int 0, .int 0, .int 0, .null, .null, .int 0, .int 0, .int 0])) ++ [(v0, .inl (cI E, 10, .inl (fun _ => 0))), (v1, .inl (cI E, 10, .inl (fun _ => 0))), (v2, .inl (cI E, 10, .inl (fun _ => 0))), (v3, .inl (cI E, 10, .inl (fun _ => 0))), (v4, .inl (cI E, 10, .inl (fun _ => 0))), (v5, .inl (cI E, 30, .inl (fun _ => 0))), (v6, .inl (cI E, 30, .inl (fun _ => 0))), (v7, .inl (cI E, 30, .inl (fun _ => 0))), (v8, .inl (cI E, 30, .inl (fun _ => 0))), (v9, .inl (cI E, 30, .inl (fun _ => 0))), (v10, .inl (cI E, 12, .inl (fun _ => 0))), (v11, .inl (cI E, 60, .inl (fun _ => 0))), (v12, .inl (cI E, 60, .inl (fun _ => 0))), (v13, .inl (cI E, 60, .inl (fun _ => 0)))]) (nf_sq he) ?_
  refine V_aload_n dX8_init_116 rfl ?_
  refine V_bipush (v := 60) dX8_init_117 (by decide) ?_
  refine V_newaI (N := 60) wd_ar_int dX8_init_119 (by decide) (by decide) (by decide) (Nat.le_of_ble_eq_true rfl) (Nat.le_of_ble_eq_true rfl) (fun v14 => ?_)
  refine V.eqw (ws' := ws.set q (o, .inr (8, [.int 0, .ref v0, .ref v1, .ref v2, .ref v3, .ref v4, .ref v5, .ref v6, .ref v7, .ref v8, .ref v9, .ref v10, .ref v11, .ref v12, .ref v13, .null, .null, .null, .null, .int 0, .int 0, .int 0, .int 0, .int 0, .int 0, .int 0, .int 0, .int 0, .null, .null, .int 0, .int 0, .int 0])) ++ [(v0, .inl (cI E, 10, .inl (fun _ => 0))), (v1, .inl (cI E, 10, .inl (fun _ => 0))), (v2, .inl (cI E, 10, .inl (fun _ => 0))), (v3, .inl (cI E, 10, .inl (fun _ => 0))), (v4, .inl (cI E, 10, .inl (fun _ => 0))), (v5, .inl (cI E, 30, .inl (fun _ => 0))), (v6, .inl (cI E, 30, .inl (fun _ => 0))), (v7, .inl (cI E, 30, .inl (fun _ => 0))), (v8, .inl (cI E, 30, .inl (fun _ => 0))), (v9, .inl (cI E, 30, .inl (fun _ => 0))), (v10, .inl (cI E, 12, .inl (fun _ => 0))), (v11, .inl (cI E, 60, .inl (fun _ => 0))), (v12, .inl (cI E, 60, .inl (fun _ => 0))), (v13, .inl (cI E, 60, .inl (fun _ => 0))), (v14, .inl (cI E, 60, .inl (fun _ => 0)))]) (List.append_assoc _ _ _) ?_
  refine V_putF q fp_X8_52 rfl dX8_init_121 (nf_q he) rfl rfl (Nat.le_of_ble_eq_true rfl) ?_
  refine V.eqw (ws' := ws.set q (o, .inr (8, [.int 0, .ref v0, .ref v1, .ref v2, .ref v3, .ref v4, .ref v5, .ref v6, .ref v7, .ref v8, .ref v9, .ref v10, .ref v11, .ref v12, .ref v13, .ref v14, .null, .null, .null, .int 0, .int 0, .int 0, .int 0, .int 0, .int 0, .int 0, .int 0, .int 0, .null, .null, .int 0, .int 0, .int 0])) ++ [(v0, .inl (cI E, 10, .inl (fun _ => 0))), (v1, .inl (cI E, 10, .inl (fun _ => 0))), (v2, .inl (cI E, 10, .inl (fun _ => 0))), (v3, .inl (cI E, 10, .inl (fun _ => 0))), (v4, .inl (cI E, 10, .inl (fun _ => 0))), (v5, .inl (cI E, 30, .inl (fun _ => 0))), (v6, .inl (cI E, 30, .inl (fun _ => 0))), (v7, .inl (cI E, 30, .inl (fun _ => 0))), (v8, .inl (cI E, 30, .inl (fun _ => 0))), (v9, .inl (cI E, 30, .inl (fun _ => 0))), (v10, .inl (cI E, 12, .inl (fun _ => 0))), (v11, .inl (cI E, 60, .inl (fun _ => 0))), (v12, .inl (cI E, 60, .inl (fun _ => 0))), (v13, .inl (cI E, 60, .inl (fun _ => 0))), (v14, .inl (cI E, 60, .inl (fun _ => 0)))]) (nf_sq he) ?_
  refine V_aload_n dX8_init_124 rfl ?_
  refine V_sipush (v := 600) dX8_init_125 (by decide) ?_
  refine V_newaI (N := 600) wd_ar_int dX8_init_128 (by decide) (by decide) (by decide) (Nat.le_of_ble_eq_true rfl) (Nat.le_of_ble_eq_true rfl) (fun v15 => ?_)
  refine V.eqw (ws' := ws.set q (o, .inr (8, [.int 0, .ref v0, .ref v1, .ref v2, .ref v3, .ref v4, .ref v5, .ref v6, .ref v7, .ref v8, .ref v9, .ref v10, .ref v11, .ref v12, .ref v13, .ref v14, .null, .null, .null, .int 0, .int 0, .int 0, .int 0, .int 0, .int 0, .int 0, .int 0, .int 0, .null, .null, .int 0, .int 0, .int 0])) ++ [(v0, .inl (cI E, 10, .inl (fun _ => 0))), (v1, .inl (cI E, 10, .inl (fun _ => 0))), (v2, .inl (cI E, 10, .inl (fun _ => 0))), (v3, .inl (cI E, 10, .inl (fun _ => 0))), (v4, .inl (cI E, 10, .inl (fun _ => 0))), (v5, .inl (cI E, 30, .inl (fun _ => 0))), (v6, .inl (cI E, 30, .inl (fun _ => 0))), (v7, .inl (cI E, 30, .inl (fun _ => 0))), (v8, .inl (cI E, 30, .inl (fun _ => 0))), (v9, .inl (cI E, 30, .inl (fun _ => 0))), (v10, .inl (cI E, 12, .inl (fun _ => 0))), (v11, .inl (cI E, 60, .inl (fun _ => 0))), (v12, .inl (cI E, 60, .inl (fun _ => 0))), (v13, .inl (cI E, 60, .inl (fun _ => 0))), (v14, .inl (cI E, 60, .inl (fun _ => 0))), (v15, .inl (cI E, 600, .inl (fun _ => 0)))]) (List.append_assoc _ _ _) ?_
  refine V_putF q fp_X8_55 rfl dX8_init_130 (nf_q he) rfl rfl (Nat.le_of_ble_eq_true rfl) ?_
  refine V.eqw (ws' := ws.set q (o, .inr (8, [.int 0, .ref v0, .ref v1, .ref v2, .ref v3, .ref v4, .ref v5, .ref v6, .ref v7, .ref v8, .ref v9, .ref v10, .ref v11, .ref v12, .ref v13, .ref v14, .ref v15, .null, .null, .int 0, .int 0, .int 0, .int 0, .int 0, .int 0, .int 0, .int 0, .int 0, .null, .null, .int 0, .int 0, .int 0])) ++ [(v0, .inl (cI E, 10, .inl (fun _ => 0))), (v1, .inl (cI E, 10, .inl (fun _ => 0))), (v2, .inl (cI E, 10, .inl (fun _ => 0))), (v3, .inl (cI E, 10, .inl (fun _ => 0))), (v4, .inl (cI E, 10, .inl (fun _ => 0))), (v5, .inl (cI E, 30, .inl (fun _ => 0))), (v6, .inl (cI E, 30, .inl (fun _ => 0))), (v7, .inl (cI E, 30, .inl (fun _ => 0))), (v8, .inl (cI E, 30, .inl (fun _ => 0))), (v9, .inl (cI E, 30, .inl (fun _ => 0))), (v10, .inl (cI E, 12, .inl (fun _ => 0))), (v11, .inl (cI E, 60, .inl (fun _ => 0))), (v12, .inl (cI E, 60, .inl (fun _ => 0))), (v13, .inl (cI E, 60, .inl (fun _ => 0))), (v14, .inl (cI E, 60, .inl (fun _ => 0))), (v15, .inl (cI E, 600, .inl (fun _ => 0)))]) (nf_sq he) ?_
  refine V_aload_n dX8_init_133 rfl ?_
  refine V_sipush (v := 600) dX8_init_134 (by decide) ?_
  refine V_newaI (N := 600) wd_ar_int dX8_init_137 (by decide) (by decide) (by decide) (Nat.le_of_ble_eq_true rfl) (Nat.le_of_ble_eq_true rfl) (fun v16 => ?_)
  refine V.eqw (ws' := ws.set q (o, .inr (8, [.int 0, .ref v0, .ref v1, .ref v2, .ref v3, .ref v4, .ref v5, .ref v6, .ref v7, .ref v8, .ref v9, .ref v10, .ref v11, .ref v12, .ref v13, .ref v14, .ref v15, .null, .null, .int 0, .int 0, .int 0, .int 0, .int 0, .int 0, .int 0, .int 0, .int 0, .null, .null, .int 0, .int 0, .int 0])) ++ [(v0, .inl (cI E, 10, .inl (fun _ => 0))), (v1, .inl (cI E, 10, .inl (fun _ => 0))), (v2, .inl (cI E, 10, .inl (fun _ => 0))), (v3, .inl (cI E, 10, .inl (fun _ => 0))), (v4, .inl (cI E, 10, .inl (fun _ => 0))), (v5, .inl (cI E, 30, .inl (fun _ => 0))), (v6, .inl (cI E, 30, .inl (fun _ => 0))), (v7, .inl (cI E, 30, .inl (fun _ => 0))), (v8, .inl (cI E, 30, .inl (fun _ => 0))), (v9, .inl (cI E, 30, .inl (fun _ => 0))), (v10, .inl (cI E, 12, .inl (fun _ => 0))), (v11, .inl (cI E, 60, .inl (fun _ => 0))), (v12, .inl (cI E, 60, .inl (fun _ => 0))), (v13, .inl (cI E, 60, .inl (fun _ => 0))), (v14, .inl (cI E, 60, .inl (fun _ => 0))), (v15, .inl (cI E, 600, .inl (fun _ => 0))), (v16, .inl (cI E, 600, .inl (fun _ => 0)))]) (List.append_assoc _ _ _) ?_
  refine V_putF q fp_X8_58 rfl dX8_init_139 (nf_q he) rfl rfl (Nat.le_of_ble_eq_true rfl) ?_
  refine V.eqw (ws' := ws.set q (o, .inr (8, [.int 0, .ref v0, .ref v1, .ref v2, .ref v3, .ref v4, .ref v5, .ref v6, .ref v7, .ref v8, .ref v9, .ref v10, .ref v11, .ref v12, .ref v13, .ref v14, .ref v15, .ref v16, .null, .int 0, .int 0, .int 0, .int 0, .int 0, .int 0, .int 0, .int 0, .int 0, .null, .null, .int 0, .int 0, .int 0])) ++ [(v0, .inl (cI E, 10, .inl (fun _ => 0))), (v1, .inl (cI E, 10, .inl (fun _ => 0))), (v2, .inl (cI E, 10, .inl (fun _ => 0))), (v3, .inl (cI E, 10, .inl (fun _ => 0))), (v4, .inl (cI E, 10, .inl (fun _ => 0))), (v5, .inl (cI E, 30, .inl (fun _ => 0))), (v6, .inl (cI E, 30, .inl (fun _ => 0))), (v7, .inl (cI E, 30, .inl (fun _ => 0))), (v8, .inl (cI E, 30, .inl (fun _ => 0))), (v9, .inl (cI E, 30, .inl (fun _ => 0))), (v10, .inl (cI E, 12, .inl (fun _ => 0))), (v11, .inl (cI E, 60, .inl (fun _ => 0))), (v12, .inl (cI E, 60, .inl (fun _ => 0))), (v13, .inl (cI E, 60, .inl (fun _ => 0))), (v14, .inl (cI E, 60, .inl (fun _ => 0))), (v15, .inl (cI E, 600, .inl (fun _ => 0))), (v16, .inl (cI E, 600, .inl (fun _ => 0)))]) (nf_sq he) ?_
  refine V_aload_n dX8_init_142 rfl ?_
  refine V_bipush (v := 60) dX8_init_143 (by decide) ?_
  refine V_newaZ (N := 60) wd_ar_boolean dX8_init_145 (by decide) (by decide) (by decide) (Nat.le_of_ble_eq_true rfl) (Nat.le_of_ble_eq_true rfl) (fun v17 => ?_)
  refine V.eqw (ws' := ws.set q (o, .inr (8, [.int 0, .ref v0, .ref v1, .ref v2, .ref v3, .ref v4, .ref v5, .ref v6, .ref v7, .ref v8, .ref v9, .ref v10, .ref v11, .ref v12, .ref v13, .ref v14, .ref v15, .ref v16, .null, .int 0, .int 0, .int 0, .int 0, .int 0, .int 0, .int 0, .int 0, .int 0, .null, .null, .int 0, .int 0, .int 0])) ++ [(v0, .inl (cI E, 10, .inl (fun _ => 0))), (v1, .inl (cI E, 10, .inl (fun _ => 0))), (v2, .inl (cI E, 10, .inl (fun _ => 0))), (v3, .inl (cI E, 10, .inl (fun _ => 0))), (v4, .inl (cI E, 10, .inl (fun _ => 0))), (v5, .inl (cI E, 30, .inl (fun _ => 0))), (v6, .inl (cI E, 30, .inl (fun _ => 0))), (v7, .inl (cI E, 30, .inl (fun _ => 0))), (v8, .inl (cI E, 30, .inl (fun _ => 0))), (v9, .inl (cI E, 30, .inl (fun _ => 0))), (v10, .inl (cI E, 12, .inl (fun _ => 0))), (v11, .inl (cI E, 60, .inl (fun _ => 0))), (v12, .inl (cI E, 60, .inl (fun _ => 0))), (v13, .inl (cI E, 60, .inl (fun _ => 0))), (v14, .inl (cI E, 60, .inl (fun _ => 0))), (v15, .inl (cI E, 600, .inl (fun _ => 0))), (v16, .inl (cI E, 600, .inl (fun _ => 0))), (v17, .inl (cZ E, 60, .inl (fun _ => 0)))]) (List.append_assoc _ _ _) ?_
  refine V_putF q fp_X8_61 rfl dX8_init_147 (nf_q he) rfl rfl (Nat.le_of_ble_eq_true rfl) ?_
  refine V.eqw (ws' := ws.set q (o, .inr (8, [.int 0, .ref v0, .ref v1, .ref v2, .ref v3, .ref v4, .ref v5, .ref v6, .ref v7, .ref v8, .ref v9, .ref v10, .ref v11, .ref v12, .ref v13, .ref v14, .ref v15, .ref v16, .ref v17, .int 0, .int 0, .int 0, .int 0, .int 0, .int 0, .int 0, .int 0, .int 0, .null, .null, .int 0, .int 0, .int 0])) ++ [(v0, .inl (cI E, 10, .inl (fun _ => 0))), (v1, .inl (cI E, 10, .inl (fun _ => 0))), (v2, .inl (cI E, 10, .inl (fun _ => 0))), (v3, .inl (cI E, 10, .inl (fun _ => 0))), (v4, .inl (cI E, 10, .inl (fun _ => 0))), (v5, .inl (cI E, 30, .inl (fun _ => 0))), (v6, .inl (cI E, 30, .inl (fun _ => 0))), (v7, .inl (cI E, 30, .inl (fun _ => 0))), (v8, .inl (cI E, 30, .inl (fun _ => 0))), (v9, .inl (cI E, 30, .inl (fun _ => 0))), (v10, .inl (cI E, 12, .inl (fun _ => 0))), (v11, .inl (cI E, 60, .inl (fun _ => 0))), (v12, .inl (cI E, 60, .inl (fun _ => 0))), (v13, .inl (cI E, 60, .inl (fun _ => 0))), (v14, .inl (cI E, 60, .inl (fun _ => 0))), (v15, .inl (cI E, 600, .inl (fun _ => 0))), (v16, .inl (cI E, 600, .inl (fun _ => 0))), (v17, .inl (cZ E, 60, .inl (fun _ => 0)))]) (nf_sq he) ?_
  refine V_aload_n dX8_init_150 rfl ?_
  refine V_sipush (v := 1024) dX8_init_151 (by decide) ?_
  refine V_newaZ (N := 1024) wd_ar_boolean dX8_init_154 (by decide) (by decide) (by decide) (Nat.le_of_ble_eq_true rfl) (Nat.le_of_ble_eq_true rfl) (fun v18 => ?_)
  refine V.eqw (ws' := ws.set q (o, .inr (8, [.int 0, .ref v0, .ref v1, .ref v2, .ref v3, .ref v4, .ref v5, .ref v6, .ref v7, .ref v8, .ref v9, .ref v10, .ref v11, .ref v12, .ref v13, .ref v14, .ref v15, .ref v16, .ref v17, .int 0, .int 0, .int 0, .int 0, .int 0, .int 0, .int 0, .int 0, .int 0, .null, .null, .int 0, .int 0, .int 0])) ++ [(v0, .inl (cI E, 10, .inl (fun _ => 0))), (v1, .inl (cI E, 10, .inl (fun _ => 0))), (v2, .inl (cI E, 10, .inl (fun _ => 0))), (v3, .inl (cI E, 10, .inl (fun _ => 0))), (v4, .inl (cI E, 10, .inl (fun _ => 0))), (v5, .inl (cI E, 30, .inl (fun _ => 0))), (v6, .inl (cI E, 30, .inl (fun _ => 0))), (v7, .inl (cI E, 30, .inl (fun _ => 0))), (v8, .inl (cI E, 30, .inl (fun _ => 0))), (v9, .inl (cI E, 30, .inl (fun _ => 0))), (v10, .inl (cI E, 12, .inl (fun _ => 0))), (v11, .inl (cI E, 60, .inl (fun _ => 0))), (v12, .inl (cI E, 60, .inl (fun _ => 0))), (v13, .inl (cI E, 60, .inl (fun _ => 0))), (v14, .inl (cI E, 60, .inl (fun _ => 0))), (v15, .inl (cI E, 600, .inl (fun _ => 0))), (v16, .inl (cI E, 600, .inl (fun _ => 0))), (v17, .inl (cZ E, 60, .inl (fun _ => 0))), (v18, .inl (cZ E, 1024, .inl (fun _ => 0)))]) (List.append_assoc _ _ _) ?_
  refine V_putF q fp_X8_65 rfl dX8_init_156 (nf_q he) rfl rfl (Nat.le_of_ble_eq_true rfl) ?_
  refine V.eqw (ws' := ws.set q (o, .inr (8, [.int 0, .ref v0, .ref v1, .ref v2, .ref v3, .ref v4, .ref v5, .ref v6, .ref v7, .ref v8, .ref v9, .ref v10, .ref v11, .ref v12, .ref v13, .ref v14, .ref v15, .ref v16, .ref v17, .int 0, .int 0, .int 0, .int 0, .int 0, .int 0, .int 0, .int 0, .int 0, .ref v18, .null, .int 0, .int 0, .int 0])) ++ [(v0, .inl (cI E, 10, .inl (fun _ => 0))), (v1, .inl (cI E, 10, .inl (fun _ => 0))), (v2, .inl (cI E, 10, .inl (fun _ => 0))), (v3, .inl (cI E, 10, .inl (fun _ => 0))), (v4, .inl (cI E, 10, .inl (fun _ => 0))), (v5, .inl (cI E, 30, .inl (fun _ => 0))), (v6, .inl (cI E, 30, .inl (fun _ => 0))), (v7, .inl (cI E, 30, .inl (fun _ => 0))), (v8, .inl (cI E, 30, .inl (fun _ => 0))), (v9, .inl (cI E, 30, .inl (fun _ => 0))), (v10, .inl (cI E, 12, .inl (fun _ => 0))), (v11, .inl (cI E, 60, .inl (fun _ => 0))), (v12, .inl (cI E, 60, .inl (fun _ => 0))), (v13, .inl (cI E, 60, .inl (fun _ => 0))), (v14, .inl (cI E, 60, .inl (fun _ => 0))), (v15, .inl (cI E, 600, .inl (fun _ => 0))), (v16, .inl (cI E, 600, .inl (fun _ => 0))), (v17, .inl (cZ E, 60, .inl (fun _ => 0))), (v18, .inl (cZ E, 1024, .inl (fun _ => 0)))]) (nf_sq he) ?_
  refine V_aload_n dX8_init_159 rfl ?_
  refine V_bipush (v := 10) dX8_init_160 (by decide) ?_
  refine V_newaI (N := 10) wd_ar_int dX8_init_162 (by decide) (by decide) (by decide) (Nat.le_of_ble_eq_true rfl) (Nat.le_of_ble_eq_true rfl) (fun v19 => ?_)
  refine V.eqw (ws' := ws.set q (o, .inr (8, [.int 0, .ref v0, .ref v1, .ref v2, .ref v3, .ref v4, .ref v5, .ref v6, .ref v7, .ref v8, .ref v9, .ref v10, .ref v11, .ref v12, .ref v13, .ref v14, .ref v15, .ref v16, .ref v17, .int 0, .int 0, .int 0, .int 0, .int 0, .int 0, .int 0, .int 0, .int 0, .ref v18, .null, .int 0, .int 0, .int 0])) ++ [(v0, .inl (cI E, 10, .inl (fun _ => 0))), (v1, .inl (cI E, 10, .inl (fun _ => 0))), (v2, .inl (cI E, 10, .inl (fun _ => 0))), (v3, .inl (cI E, 10, .inl (fun _ => 0))), (v4, .inl (cI E, 10, .inl (fun _ => 0))), (v5, .inl (cI E, 30, .inl (fun _ => 0))), (v6, .inl (cI E, 30, .inl (fun _ => 0))), (v7, .inl (cI E, 30, .inl (fun _ => 0))), (v8, .inl (cI E, 30, .inl (fun _ => 0))), (v9, .inl (cI E, 30, .inl (fun _ => 0))), (v10, .inl (cI E, 12, .inl (fun _ => 0))), (v11, .inl (cI E, 60, .inl (fun _ => 0))), (v12, .inl (cI E, 60, .inl (fun _ => 0))), (v13, .inl (cI E, 60, .inl (fun _ => 0))), (v14, .inl (cI E, 60, .inl (fun _ => 0))), (v15, .inl (cI E, 600, .inl (fun _ => 0))), (v16, .inl (cI E, 600, .inl (fun _ => 0))), (v17, .inl (cZ E, 60, .inl (fun _ => 0))), (v18, .inl (cZ E, 1024, .inl (fun _ => 0))), (v19, .inl (cI E, 10, .inl (fun _ => 0)))]) (List.append_assoc _ _ _) ?_
  refine V_putF q fp_X8_68 rfl dX8_init_164 (nf_q he) rfl rfl (Nat.le_of_ble_eq_true rfl) ?_
  refine V.eqw (ws' := ws.set q (o, .inr (8, [.int 0, .ref v0, .ref v1, .ref v2, .ref v3, .ref v4, .ref v5, .ref v6, .ref v7, .ref v8, .ref v9, .ref v10, .ref v11, .ref v12, .ref v13, .ref v14, .ref v15, .ref v16, .ref v17, .int 0, .int 0, .int 0, .int 0, .int 0, .int 0, .int 0, .int 0, .int 0, .ref v18, .ref v19, .int 0, .int 0, .int 0])) ++ [(v0, .inl (cI E, 10, .inl (fun _ => 0))), (v1, .inl (cI E, 10, .inl (fun _ => 0))), (v2, .inl (cI E, 10, .inl (fun _ => 0))), (v3, .inl (cI E, 10, .inl (fun _ => 0))), (v4, .inl (cI E, 10, .inl (fun _ => 0))), (v5, .inl (cI E, 30, .inl (fun _ => 0))), (v6, .inl (cI E, 30, .inl (fun _ => 0))), (v7, .inl (cI E, 30, .inl (fun _ => 0))), (v8, .inl (cI E, 30, .inl (fun _ => 0))), (v9, .inl (cI E, 30, .inl (fun _ => 0))), (v10, .inl (cI E, 12, .inl (fun _ => 0))), (v11, .inl (cI E, 60, .inl (fun _ => 0))), (v12, .inl (cI E, 60, .inl (fun _ => 0))), (v13, .inl (cI E, 60, .inl (fun _ => 0))), (v14, .inl (cI E, 60, .inl (fun _ => 0))), (v15, .inl (cI E, 600, .inl (fun _ => 0))), (v16, .inl (cI E, 600, .inl (fun _ => 0))), (v17, .inl (cZ E, 60, .inl (fun _ => 0))), (v18, .inl (cZ E, 1024, .inl (fun _ => 0))), (v19, .inl (cI E, 10, .inl (fun _ => 0)))]) (nf_sq he) ?_
  exact V_vret dX8_init_167 rfl (Nat.le_of_ble_eq_true rfl) (Nat.le_of_ble_eq_true rfl) ⟨v0, v1, v2, v3, v4, v5, v6, v7, v8, v9, v10, v11, v12, v13, v14, v15, v16, v17, v18, v19, rfl, rfl⟩
set_option maxHeartbeats 4000000 in
set_option maxRecDepth 20000 in
theorem ct_X6_init {q o : Nat} (a1 a2 : Nat) (c0 : Int32) (he : ws[q]? = some (o, .inr (6, [.null, .null, .int 0, .int 0]))) : Ct E yX6_init cX6_init 4 none 1 0 0 [.ref o, .ref a1, .ref a2, .int c0] ws (fun r w => r = none ∧ w = ws.set q (o, .inr (6, [.ref a1, .ref a2, .int c0, .int 0]))) := by
  refine Ct_of mw_X6_init rfl (Nat.le_of_ble_eq_true rfl) ?_
  refine V_aload_n dX6_init_0 rfl ?_
  refine V_objInit wd_ol_X6 wd_objI wd_objC dX6_init_1 (by decide) (Nat.le_of_ble_eq_true rfl) ?_
  refine V.eqw (nf_0 he) ?_
  refine V_aload_n dX6_init_4 rfl ?_
  refine V_aload_n dX6_init_5 rfl ?_
  refine V_putF q fp_X6_7 rfl dX6_init_6 (nf_q he) rfl rfl (Nat.le_of_ble_eq_true rfl) ?_
  refine V.eqw (ws' := ws.set q (o, .inr (6, [.ref a1, .null, .int 0, .int 0])) ++ []) (nf_sq he) ?_
  refine V_aload_n dX6_init_9 rfl ?_
  refine V_aload_n dX6_init_10 rfl ?_
  refine V_putF q fp_X6_13 rfl dX6_init_11 (nf_q he) rfl rfl (Nat.le_of_ble_eq_true rfl) ?_
  refine V.eqw (ws' := ws.set q (o, .inr (6, [.ref a1, .ref a2, .int 0, .int 0])) ++ []) (nf_sq he) ?_
  refine V_aload_n dX6_init_14 rfl ?_
  refine V_iload_n dX6_init_15 rfl ?_
  refine V_putF q fp_X6_16 rfl dX6_init_16 (nf_q he) rfl rfl (Nat.le_of_ble_eq_true rfl) ?_
  refine V.eqw (ws' := ws.set q (o, .inr (6, [.ref a1, .ref a2, .int c0, .int 0])) ++ []) (nf_sq he) ?_
  refine V_aload_n dX6_init_19 rfl ?_
  refine V_iconst (v := 0) dX6_init_20 (by decide) ?_
  refine V_put q fp_X6_20 dX6_init_21 (nf_q he) rfl rfl (Nat.le_of_ble_eq_true rfl) ?_
  refine V.eqw (ws' := ws.set q (o, .inr (6, [.ref a1, .ref a2, .int c0, .int 0])) ++ []) (nf_sq he) ?_
  exact V_vret dX6_init_24 rfl (by decide) (by decide) ⟨rfl, by rw [List.append_nil]⟩
set_option maxHeartbeats 4000000 in
set_option maxRecDepth 20000 in
theorem ct_acInit (o : Nat) : Ct E yJxa1e45_init_da8c8 cJxa1e45_init_da8c8 1 none 1 0 0 [.ref o] ws (fun r w => r = none ∧ w = ws) := by
  refine Ct_of mw_Jxa1e45_init_da8c8 rfl (Nat.le_of_ble_eq_true rfl) ?_
  refine V_aload_n dJxa1e45_init_da8c8_0 rfl ?_
  refine V_objInit wd_ol_Jxa1e45 wd_objI wd_objC dJxa1e45_init_da8c8_1 (by decide) (Nat.le_of_ble_eq_true rfl) ?_
  exact V_vret dJxa1e45_init_da8c8_4 rfl (by decide) (by decide) ⟨rfl, rfl⟩
set_option maxHeartbeats 4000000 in
set_option maxRecDepth 20000 in
theorem ct_absInit {q o : Nat} {e1 : Value} {e2 : Value} {x : Int32} (he : ws[q]? = some (o, .inr (9, [.int x, e1, e2]))) : Ct E yJxc12de_init_da8c8 cJxc12de_init_da8c8 1 none 2 0 0 [.ref o] ws (fun r w => r = none ∧ w = ws.set q (o, .inr (9, [.int 0, e1, e2]))) := by
  refine Ct_of mw_Jxc12de_init_da8c8 rfl (Nat.le_of_ble_eq_true rfl) ?_
  refine V_aload_n dJxc12de_init_da8c8_0 rfl ?_
  refine V_callI mw_Jxa1e45_init_da8c8 mi_Jxc12de_1 dJxc12de_init_da8c8_1 (ct_acInit o) rfl rfl (Nat.le_of_ble_eq_true rfl) (by decide) (by decide) (by decide) (by decide) (fun r1 w1 hp1 => ?_)
  obtain ⟨rfl, rfl⟩ := hp1
  refine V_aload_n dJxc12de_init_da8c8_4 rfl ?_
  refine V_iconst (v := 0) dJxc12de_init_da8c8_5 (by decide) ?_
  refine V_put q fp_Jxc12de_7 dJxc12de_init_da8c8_6 he rfl rfl (Nat.le_of_ble_eq_true rfl) ?_
  exact V_vret dJxc12de_init_da8c8_9 rfl (by decide) (by decide) ⟨rfl, rfl⟩
set_option maxHeartbeats 4000000 in
set_option maxRecDepth 20000 in
theorem ct_alInit (hE : GH E tE mi) {q o : Nat} (he : ws[q]? = some (o, .inr (9, [.int 0, .null, .int 0]))) : Ct E yJx4a65c_init_da8c8 cJx4a65c_init_da8c8 1 none 3 0 0 [.ref o] ws (fun r w => r = none ∧ w = ws.set q (o, .inr (9, [.int 0, .ref tE, .int 0]))) := by
  refine Ct_of mw_Jx4a65c_init_da8c8 rfl (Nat.le_of_ble_eq_true rfl) ?_
  refine V_aload_n dJx4a65c_init_da8c8_0 rfl ?_
  refine V_callI mw_Jxc12de_init_da8c8 mi_Jx4a65c_1 dJx4a65c_init_da8c8_1 (ct_absInit he) rfl rfl (Nat.le_of_ble_eq_true rfl) (by decide) (by decide) (by decide) (by decide) (fun r1 w1 hp1 => ?_)
  obtain ⟨rfl, rfl⟩ := hp1
  refine V_aload_n dJx4a65c_init_da8c8_4 rfl ?_
  refine V_getsE hE rfl dJx4a65c_init_da8c8_5 ?_
  refine V_put q fp_Jx4a65c_9 dJx4a65c_init_da8c8_8 (set_at he) rfl rfl (Nat.le_of_ble_eq_true rfl) ?_
  refine V_vret dJx4a65c_init_da8c8_11 rfl (by decide) (by decide) ⟨rfl, ?_⟩
  rw [List.set_set]
  rfl
end CTR
