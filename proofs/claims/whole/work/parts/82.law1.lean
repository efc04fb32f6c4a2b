/-! ===== the law's cases: part, offer, withdraw, need, test, fits ===== -/
abbrev yW (nm ds : String) : MethodName := ⟨RL, nm, ds⟩
/-- between two calls of the law -/
def LWS (E : VE) (ad : Nat → Nat) (tE oa : Nat) (ws : va_W) : Prop := ∃ (el : Nat) (g : Nat → Nat → Int32) (T : Nat → TR) (n : Nat) (f : Nat → Int64), Wd E ad el g ws ∧ DY E el tE n T ws ∧ ws[46]? = some (oa, .inl (cJ E, 1, .inr (.inl f))) ∧ IV g T n
/-- behind a case the law goes on -/
def KNX (E : VE) (ad : Nat → Nat) (nm ds : String) (tE b oa i cl sl : Nat) (post : Option Value → va_W → Prop) : Prop := ∀ (ws' : va_W) (z5 z6 : Option Value) (cl' sl' : Nat), LWS E ad tE oa ws' → cl' ≤ cl + 5 → sl' ≤ sl + 144 → V E (yW nm ds) cL_law 7 (some .boolean) 2048 601024 7293034 post 923 [some (.ref b), some (.ref (ad 0)), some (.ref (ad 25)), some (.ref oa), some (.int (nI (6 * i))), z5, z6] [] ws' cl' sl'
section LAW1
variable {E : VE} {ad : Nat → Nat} {tE mi s1 s2 b len : Nat} {xs : Nat → Int32} {oa : Nat} {nm ds : String} {ws : va_W} {i cl sl : Nat} {z5 z6 : Option Value} {post : Option Value → va_W → Prop}
set_option maxHeartbeats 4000000 in
set_option maxRecDepth 20000 in
theorem lc_0 (hE : GH E tE mi) (hX : GX E s1 s2) (hSc : SC E b len xs) (hlen : len ≤ 3072) (hi : 6 * i + 6 ≤ len) (hcl : cl + 5 ≤ 601024) (hsl : sl + 144 ≤ 7293034) (hS : LWS E ad tE oa ws) (K : KNX E ad nm ds tE b oa i cl sl post) : V E (yW nm ds) cL_law 7 (some .boolean) 2048 601024 7293034 post 152 [some (.ref b), some (.ref (ad 0)), some (.ref (ad 25)), some (.ref oa), some (.int (nI (6 * i))), z5, z6] [] ws cl sl := by
  obtain ⟨el, g, T, n, f, hw, hd, ho, nP, nN, nT, nW, C, hI⟩ := hS
  have hC := hI.1
  have hP := hC.1.1
  have hP10 := hC.1.2.2
  have hN := hC.2.1.1
  have hN30 := hC.2.1.2.2
  have hT := hC.2.2.1.1
  have hT12 := hC.2.2.1.2.2
  have hW := hC.2.2.2.1.1
  have hW60 := hC.2.2.2.1.2.2
  have hn := hC.2.2.2.2.1
  have hn60 := hC.2.2.2.2.2.2
  have hnok := hI.2.1.2.1.nok hP10
  have hw0 : WF E ad el g ws ws := ⟨hw, Fr.rf⟩
  refine V_aload_n dL_law_152 rfl ?_
  refine V_aload_n dL_law_153 rfl ?_
  refine V_iload dL_law_154 rfl ?_
  refine V_iconst (v := 1) dL_law_156 (by decide) ?_
  refine V_iadd dL_law_157 ?_
  refine V_sld hSc (6 * i + 1) (nI_add (6 * i) 1) (by omega) (by omega) dL_law_158 ?_
  refine V_callV (0) mw_X7_part mv_L_19 dL_law_159 (ct_X7_part hw hP hP10 (xs (6 * i + 1))) hw0.p0 rfl rfl rfl (Nat.le_of_ble_eq_true rfl) (by decide) (by decide) (by omega) (by omega) (fun r1 ws1 hp1 => ?_)
  obtain ⟨rfl, hw1⟩ := hp1
  have hr := hI.rfs (kr_part (xs (6 * i + 1)))
  refine V_aload_n dL_law_162 rfl ?_
  refine V_aload_n dL_law_163 rfl ?_
  refine V_iload dL_law_164 rfl ?_
  refine V_iconst (v := 1) dL_law_166 (by decide) ?_
  refine V_iadd dL_law_167 ?_
  refine V_sld hSc (6 * i + 1) (nI_add (6 * i) 1) (by omega) (by omega) dL_law_168 ?_
  refine V_callV (25) mw_X8_part mv_L_23 dL_law_169 (ct_X8_part hw1.1 hr.1.1 hP10 (xs (6 * i + 1))) hw1.p25 rfl rfl rfl (Nat.le_of_ble_eq_true rfl) (by decide) (by decide) (by omega) (by omega) (fun r2 ws2 hp2 => ?_)
  obtain ⟨rfl, hw2⟩ := hp2
  have hc := c_part hI (xs (6 * i + 1))
  refine V_icmp_eq 923 dL_law_172 (by decide) (fun _ => ?_) (fun h => absurd hc.1 h)
  exact K _ _ _ _ _ ⟨el, _, T, n, f, hw2.1, (hd.fr hw1.2).fr hw2.2, (hw2.2.2 46 (by decide)).trans ((hw1.2.2 46 (by decide)).trans ho), hc.2⟩ (by omega) (by omega)
set_option maxHeartbeats 4000000 in
set_option maxRecDepth 20000 in
theorem lc_1 (hE : GH E tE mi) (hX : GX E s1 s2) (hSc : SC E b len xs) (hlen : len ≤ 3072) (hi : 6 * i + 6 ≤ len) (hcl : cl + 5 ≤ 601024) (hsl : sl + 144 ≤ 7293034) (hS : LWS E ad tE oa ws) (K : KNX E ad nm ds tE b oa i cl sl post) : V E (yW nm ds) cL_law 7 (some .boolean) 2048 601024 7293034 post 177 [some (.ref b), some (.ref (ad 0)), some (.ref (ad 25)), some (.ref oa), some (.int (nI (6 * i))), z5, z6] [] ws cl sl := by
  obtain ⟨el, g, T, n, f, hw, hd, ho, nP, nN, nT, nW, C, hI⟩ := hS
  have hC := hI.1
  have hP := hC.1.1
  have hP10 := hC.1.2.2
  have hN := hC.2.1.1
  have hN30 := hC.2.1.2.2
  have hT := hC.2.2.1.1
  have hT12 := hC.2.2.1.2.2
  have hW := hC.2.2.2.1.1
  have hW60 := hC.2.2.2.1.2.2
  have hn := hC.2.2.2.2.1
  have hn60 := hC.2.2.2.2.2.2
  have hnok := hI.2.1.2.1.nok hP10
  have hw0 : WF E ad el g ws ws := ⟨hw, Fr.rf⟩
  refine V_aload_n dL_law_177 rfl ?_
  refine V_aload_n dL_law_178 rfl ?_
  refine V_iload dL_law_179 rfl ?_
  refine V_iconst (v := 1) dL_law_181 (by decide) ?_
  refine V_iadd dL_law_182 ?_
  refine V_sld hSc (6 * i + 1) (nI_add (6 * i) 1) (by omega) (by omega) dL_law_183 ?_
  refine V_aload_n dL_law_184 rfl ?_
  refine V_iload dL_law_185 rfl ?_
  refine V_iconst (v := 2) dL_law_187 (by decide) ?_
  refine V_iadd dL_law_188 ?_
  refine V_sld hSc (6 * i + 2) (nI_add (6 * i) 2) (by omega) (by omega) dL_law_189 ?_
  refine V_aload_n dL_law_190 rfl ?_
  refine V_iload dL_law_191 rfl ?_
  refine V_iconst (v := 3) dL_law_193 (by decide) ?_
  refine V_iadd dL_law_194 ?_
  refine V_sld hSc (6 * i + 3) (nI_add (6 * i) 3) (by omega) (by omega) dL_law_195 ?_
  refine V_callV (0) mw_X7_offer mv_L_24 dL_law_196 (ct_X7_offer hw hP hP10 (xs (6 * i + 1)) (xs (6 * i + 2)) (xs (6 * i + 3))) hw0.p0 rfl rfl rfl (Nat.le_of_ble_eq_true rfl) (by decide) (by decide) (by omega) (by omega) (fun r1 ws1 hp1 => ?_)
  obtain ⟨rfl, hw1⟩ := hp1
  have hr := hI.rfs (kr_offer (xs (6 * i + 1)) (xs (6 * i + 2)) (xs (6 * i + 3)))
  refine V_aload_n dL_law_199 rfl ?_
  refine V_aload_n dL_law_200 rfl ?_
  refine V_iload dL_law_201 rfl ?_
  refine V_iconst (v := 1) dL_law_203 (by decide) ?_
  refine V_iadd dL_law_204 ?_
  refine V_sld hSc (6 * i + 1) (nI_add (6 * i) 1) (by omega) (by omega) dL_law_205 ?_
  refine V_aload_n dL_law_206 rfl ?_
  refine V_iload dL_law_207 rfl ?_
  refine V_iconst (v := 2) dL_law_209 (by decide) ?_
  refine V_iadd dL_law_210 ?_
  refine V_sld hSc (6 * i + 2) (nI_add (6 * i) 2) (by omega) (by omega) dL_law_211 ?_
  refine V_aload_n dL_law_212 rfl ?_
  refine V_iload dL_law_213 rfl ?_
  refine V_iconst (v := 3) dL_law_215 (by decide) ?_
  refine V_iadd dL_law_216 ?_
  refine V_sld hSc (6 * i + 3) (nI_add (6 * i) 3) (by omega) (by omega) dL_law_217 ?_
  refine V_callV (25) mw_X8_offer mv_L_28 dL_law_218 (ct_X8_offer hw1.1 hr.1.1 hP10 (xs (6 * i + 1)) (xs (6 * i + 2)) (xs (6 * i + 3))) hw1.p25 rfl rfl rfl (Nat.le_of_ble_eq_true rfl) (by decide) (by decide) (by omega) (by omega) (fun r2 ws2 hp2 => ?_)
  obtain ⟨rfl, hw2⟩ := hp2
  have hc := c_offer hI (xs (6 * i + 1)) (xs (6 * i + 2)) (xs (6 * i + 3))
  refine V_icmp_eq 923 dL_law_221 (by decide) (fun _ => ?_) (fun h => absurd hc.1 h)
  exact K _ _ _ _ _ ⟨el, _, T, n, f, hw2.1, (hd.fr hw1.2).fr hw2.2, (hw2.2.2 46 (by decide)).trans ((hw1.2.2 46 (by decide)).trans ho), hc.2⟩ (by omega) (by omega)
set_option maxHeartbeats 4000000 in
set_option maxRecDepth 20000 in
theorem lc_2 (hE : GH E tE mi) (hX : GX E s1 s2) (hSc : SC E b len xs) (hlen : len ≤ 3072) (hi : 6 * i + 6 ≤ len) (hcl : cl + 5 ≤ 601024) (hsl : sl + 144 ≤ 7293034) (hS : LWS E ad tE oa ws) (K : KNX E ad nm ds tE b oa i cl sl post) : V E (yW nm ds) cL_law 7 (some .boolean) 2048 601024 7293034 post 226 [some (.ref b), some (.ref (ad 0)), some (.ref (ad 25)), some (.ref oa), some (.int (nI (6 * i))), z5, z6] [] ws cl sl := by
  obtain ⟨el, g, T, n, f, hw, hd, ho, nP, nN, nT, nW, C, hI⟩ := hS
  have hC := hI.1
  have hP := hC.1.1
  have hP10 := hC.1.2.2
  have hN := hC.2.1.1
  have hN30 := hC.2.1.2.2
  have hT := hC.2.2.1.1
  have hT12 := hC.2.2.1.2.2
  have hW := hC.2.2.2.1.1
  have hW60 := hC.2.2.2.1.2.2
  have hn := hC.2.2.2.2.1
  have hn60 := hC.2.2.2.2.2.2
  have hnok := hI.2.1.2.1.nok hP10
  have hw0 : WF E ad el g ws ws := ⟨hw, Fr.rf⟩
  refine V_aload_n dL_law_226 rfl ?_
  refine V_aload_n dL_law_227 rfl ?_
  refine V_iload dL_law_228 rfl ?_
  refine V_iconst (v := 1) dL_law_230 (by decide) ?_
  refine V_iadd dL_law_231 ?_
  refine V_sld hSc (6 * i + 1) (nI_add (6 * i) 1) (by omega) (by omega) dL_law_232 ?_
  refine V_callV (0) mw_X7_withdraw mv_L_29 dL_law_233 (ct_X7_withdraw hw (xs (6 * i + 1))) hw0.p0 rfl rfl rfl (Nat.le_of_ble_eq_true rfl) (by decide) (by decide) (by omega) (by omega) (fun r1 ws1 hp1 => ?_)
  obtain ⟨rfl, hw1⟩ := hp1
  have hr := hI.rfs (kr_withdraw (xs (6 * i + 1)))
  refine V_aload_n dL_law_236 rfl ?_
  refine V_aload_n dL_law_237 rfl ?_
  refine V_iload dL_law_238 rfl ?_
  refine V_iconst (v := 1) dL_law_240 (by decide) ?_
  refine V_iadd dL_law_241 ?_
  refine V_sld hSc (6 * i + 1) (nI_add (6 * i) 1) (by omega) (by omega) dL_law_242 ?_
  refine V_callV (25) mw_X8_withdraw mv_L_33 dL_law_243 (ct_X8_withdraw hw1.1 hr.1.1 hP10 (xs (6 * i + 1))) hw1.p25 rfl rfl rfl (Nat.le_of_ble_eq_true rfl) (by decide) (by decide) (by omega) (by omega) (fun r2 ws2 hp2 => ?_)
  obtain ⟨rfl, hw2⟩ := hp2
  have hc := c_withdraw hI (xs (6 * i + 1))
  refine V_icmp_eq 923 dL_law_246 (by decide) (fun _ => ?_) (fun h => absurd hc.1 h)
  exact K _ _ _ _ _ ⟨el, _, T, n, f, hw2.1, (hd.fr hw1.2).fr hw2.2, (hw2.2.2 46 (by decide)).trans ((hw1.2.2 46 (by decide)).trans ho), hc.2⟩ (by omega) (by omega)
set_option maxHeartbeats 4000000 in
set_option maxRecDepth 20000 in
theorem lc_3 (hE : GH E tE mi) (hX : GX E s1 s2) (hSc : SC E b len xs) (hlen : len ≤ 3072) (hi : 6 * i + 6 ≤ len) (hcl : cl + 5 ≤ 601024) (hsl : sl + 144 ≤ 7293034) (hS : LWS E ad tE oa ws) (K : KNX E ad nm ds tE b oa i cl sl post) : V E (yW nm ds) cL_law 7 (some .boolean) 2048 601024 7293034 post 251 [some (.ref b), some (.ref (ad 0)), some (.ref (ad 25)), some (.ref oa), some (.int (nI (6 * i))), z5, z6] [] ws cl sl := by
  obtain ⟨el, g, T, n, f, hw, hd, ho, nP, nN, nT, nW, C, hI⟩ := hS
  have hC := hI.1
  have hP := hC.1.1
  have hP10 := hC.1.2.2
  have hN := hC.2.1.1
  have hN30 := hC.2.1.2.2
  have hT := hC.2.2.1.1
  have hT12 := hC.2.2.1.2.2
  have hW := hC.2.2.2.1.1
  have hW60 := hC.2.2.2.1.2.2
  have hn := hC.2.2.2.2.1
  have hn60 := hC.2.2.2.2.2.2
  have hnok := hI.2.1.2.1.nok hP10
  have hw0 : WF E ad el g ws ws := ⟨hw, Fr.rf⟩
  refine V_aload_n dL_law_251 rfl ?_
  refine V_aload_n dL_law_252 rfl ?_
  refine V_iload dL_law_253 rfl ?_
  refine V_iconst (v := 1) dL_law_255 (by decide) ?_
  refine V_iadd dL_law_256 ?_
  refine V_sld hSc (6 * i + 1) (nI_add (6 * i) 1) (by omega) (by omega) dL_law_257 ?_
  refine V_aload_n dL_law_258 rfl ?_
  refine V_iload dL_law_259 rfl ?_
  refine V_iconst (v := 2) dL_law_261 (by decide) ?_
  refine V_iadd dL_law_262 ?_
  refine V_sld hSc (6 * i + 2) (nI_add (6 * i) 2) (by omega) (by omega) dL_law_263 ?_
  refine V_aload_n dL_law_264 rfl ?_
  refine V_iload dL_law_265 rfl ?_
  refine V_iconst (v := 3) dL_law_267 (by decide) ?_
  refine V_iadd dL_law_268 ?_
  refine V_sld hSc (6 * i + 3) (nI_add (6 * i) 3) (by omega) (by omega) dL_law_269 ?_
  refine V_aload_n dL_law_270 rfl ?_
  refine V_iload dL_law_271 rfl ?_
  refine V_iconst (v := 4) dL_law_273 (by decide) ?_
  refine V_iadd dL_law_274 ?_
  refine V_sld hSc (6 * i + 4) (nI_add (6 * i) 4) (by omega) (by omega) dL_law_275 ?_
  refine V_aload_n dL_law_276 rfl ?_
  refine V_iload dL_law_277 rfl ?_
  refine V_iconst (v := 5) dL_law_279 (by decide) ?_
  refine V_iadd dL_law_280 ?_
  refine V_sld hSc (6 * i + 5) (nI_add (6 * i) 5) (by omega) (by omega) dL_law_281 ?_
  refine V_callV (0) mw_X7_need mv_L_34 dL_law_282 (ct_X7_need hw hN hN30 (xs (6 * i + 1)) (xs (6 * i + 2)) (xs (6 * i + 3)) (xs (6 * i + 4)) (xs (6 * i + 5))) hw0.p0 rfl rfl rfl (Nat.le_of_ble_eq_true rfl) (by decide) (by decide) (by omega) (by omega) (fun r1 ws1 hp1 => ?_)
  obtain ⟨rfl, hw1⟩ := hp1
  have hr := hI.rfs (kr_need (xs (6 * i + 1)) (xs (6 * i + 2)) (xs (6 * i + 3)) (xs (6 * i + 4)) (xs (6 * i + 5)))
  refine V_aload_n dL_law_285 rfl ?_
  refine V_aload_n dL_law_286 rfl ?_
  refine V_iload dL_law_287 rfl ?_
  refine V_iconst (v := 1) dL_law_289 (by decide) ?_
  refine V_iadd dL_law_290 ?_
  refine V_sld hSc (6 * i + 1) (nI_add (6 * i) 1) (by omega) (by omega) dL_law_291 ?_
  refine V_aload_n dL_law_292 rfl ?_
  refine V_iload dL_law_293 rfl ?_
  refine V_iconst (v := 2) dL_law_295 (by decide) ?_
  refine V_iadd dL_law_296 ?_
  refine V_sld hSc (6 * i + 2) (nI_add (6 * i) 2) (by omega) (by omega) dL_law_297 ?_
  refine V_aload_n dL_law_298 rfl ?_
  refine V_iload dL_law_299 rfl ?_
  refine V_iconst (v := 3) dL_law_301 (by decide) ?_
  refine V_iadd dL_law_302 ?_
  refine V_sld hSc (6 * i + 3) (nI_add (6 * i) 3) (by omega) (by omega) dL_law_303 ?_
  refine V_aload_n dL_law_304 rfl ?_
  refine V_iload dL_law_305 rfl ?_
  refine V_iconst (v := 4) dL_law_307 (by decide) ?_
  refine V_iadd dL_law_308 ?_
  refine V_sld hSc (6 * i + 4) (nI_add (6 * i) 4) (by omega) (by omega) dL_law_309 ?_
  refine V_aload_n dL_law_310 rfl ?_
  refine V_iload dL_law_311 rfl ?_
  refine V_iconst (v := 5) dL_law_313 (by decide) ?_
  refine V_iadd dL_law_314 ?_
  refine V_sld hSc (6 * i + 5) (nI_add (6 * i) 5) (by omega) (by omega) dL_law_315 ?_
  refine V_callV (25) mw_X8_need mv_L_38 dL_law_316 (ct_X8_need hw1.1 hr.1.2.1 hN30 (xs (6 * i + 1)) (xs (6 * i + 2)) (xs (6 * i + 3)) (xs (6 * i + 4)) (xs (6 * i + 5))) hw1.p25 rfl rfl rfl (Nat.le_of_ble_eq_true rfl) (by decide) (by decide) (by omega) (by omega) (fun r2 ws2 hp2 => ?_)
  obtain ⟨rfl, hw2⟩ := hp2
  have hc := c_need hI (xs (6 * i + 1)) (xs (6 * i + 2)) (xs (6 * i + 3)) (xs (6 * i + 4)) (xs (6 * i + 5))
  refine V_icmp_eq 923 dL_law_319 (by decide) (fun _ => ?_) (fun h => absurd hc.1 h)
  exact K _ _ _ _ _ ⟨el, _, T, n, f, hw2.1, (hd.fr hw1.2).fr hw2.2, (hw2.2.2 46 (by decide)).trans ((hw1.2.2 46 (by decide)).trans ho), hc.2⟩ (by omega) (by omega)
set_option maxHeartbeats 4000000 in
set_option maxRecDepth 20000 in
theorem lc_4 (hE : GH E tE mi) (hX : GX E s1 s2) (hSc : SC E b len xs) (hlen : len ≤ 3072) (hi : 6 * i + 6 ≤ len) (hcl : cl + 5 ≤ 601024) (hsl : sl + 144 ≤ 7293034) (hS : LWS E ad tE oa ws) (K : KNX E ad nm ds tE b oa i cl sl post) : V E (yW nm ds) cL_law 7 (some .boolean) 2048 601024 7293034 post 324 [some (.ref b), some (.ref (ad 0)), some (.ref (ad 25)), some (.ref oa), some (.int (nI (6 * i))), z5, z6] [] ws cl sl := by
  obtain ⟨el, g, T, n, f, hw, hd, ho, nP, nN, nT, nW, C, hI⟩ := hS
  have hC := hI.1
  have hP := hC.1.1
  have hP10 := hC.1.2.2
  have hN := hC.2.1.1
  have hN30 := hC.2.1.2.2
  have hT := hC.2.2.1.1
  have hT12 := hC.2.2.1.2.2
  have hW := hC.2.2.2.1.1
  have hW60 := hC.2.2.2.1.2.2
  have hn := hC.2.2.2.2.1
  have hn60 := hC.2.2.2.2.2.2
  have hnok := hI.2.1.2.1.nok hP10
  have hw0 : WF E ad el g ws ws := ⟨hw, Fr.rf⟩
  refine V_aload_n dL_law_324 rfl ?_
  refine V_aload_n dL_law_325 rfl ?_
  refine V_iload dL_law_326 rfl ?_
  refine V_iconst (v := 1) dL_law_328 (by decide) ?_
  refine V_iadd dL_law_329 ?_
  refine V_sld hSc (6 * i + 1) (nI_add (6 * i) 1) (by omega) (by omega) dL_law_330 ?_
  refine V_callV (0) mw_X7_test mv_L_39 dL_law_331 (ct_X7_test hw hT hT12 (xs (6 * i + 1))) hw0.p0 rfl rfl rfl (Nat.le_of_ble_eq_true rfl) (by decide) (by decide) (by omega) (by omega) (fun r1 ws1 hp1 => ?_)
  obtain ⟨rfl, hw1⟩ := hp1
  have hr := hI.rfs (kr_test (xs (6 * i + 1)))
  refine V_aload_n dL_law_334 rfl ?_
  refine V_aload_n dL_law_335 rfl ?_
  refine V_iload dL_law_336 rfl ?_
  refine V_iconst (v := 1) dL_law_338 (by decide) ?_
  refine V_iadd dL_law_339 ?_
  refine V_sld hSc (6 * i + 1) (nI_add (6 * i) 1) (by omega) (by omega) dL_law_340 ?_
  refine V_callV (25) mw_X8_test mv_L_42 dL_law_341 (ct_X8_test hw1.1 hr.1.2.2.1 hT12 (xs (6 * i + 1))) hw1.p25 rfl rfl rfl (Nat.le_of_ble_eq_true rfl) (by decide) (by decide) (by omega) (by omega) (fun r2 ws2 hp2 => ?_)
  obtain ⟨rfl, hw2⟩ := hp2
  have hc := c_test hI (xs (6 * i + 1))
  refine V_icmp_eq 923 dL_law_344 (by decide) (fun _ => ?_) (fun h => absurd hc.1 h)
  exact K _ _ _ _ _ ⟨el, _, T, n, f, hw2.1, (hd.fr hw1.2).fr hw2.2, (hw2.2.2 46 (by decide)).trans ((hw1.2.2 46 (by decide)).trans ho), hc.2⟩ (by omega) (by omega)
set_option maxHeartbeats 4000000 in
set_option maxRecDepth 20000 in
theorem lc_5 (hE : GH E tE mi) (hX : GX E s1 s2) (hSc : SC E b len xs) (hlen : len ≤ 3072) (hi : 6 * i + 6 ≤ len) (hcl : cl + 5 ≤ 601024) (hsl : sl + 144 ≤ 7293034) (hS : LWS E ad tE oa ws) (K : KNX E ad nm ds tE b oa i cl sl post) : V E (yW nm ds) cL_law 7 (some .boolean) 2048 601024 7293034 post 349 [some (.ref b), some (.ref (ad 0)), some (.ref (ad 25)), some (.ref oa), some (.int (nI (6 * i))), z5, z6] [] ws cl sl := by
  obtain ⟨el, g, T, n, f, hw, hd, ho, nP, nN, nT, nW, C, hI⟩ := hS
  have hC := hI.1
  have hP := hC.1.1
  have hP10 := hC.1.2.2
  have hN := hC.2.1.1
  have hN30 := hC.2.1.2.2
  have hT := hC.2.2.1.1
  have hT12 := hC.2.2.1.2.2
  have hW := hC.2.2.2.1.1
  have hW60 := hC.2.2.2.1.2.2
  have hn := hC.2.2.2.2.1
  have hn60 := hC.2.2.2.2.2.2
  have hnok := hI.2.1.2.1.nok hP10
  have hw0 : WF E ad el g ws ws := ⟨hw, Fr.rf⟩
  refine V_aload_n dL_law_349 rfl ?_
  refine V_aload_n dL_law_350 rfl ?_
  refine V_iload dL_law_351 rfl ?_
  refine V_iconst (v := 1) dL_law_353 (by decide) ?_
  refine V_iadd dL_law_354 ?_
  refine V_sld hSc (6 * i + 1) (nI_add (6 * i) 1) (by omega) (by omega) dL_law_355 ?_
  refine V_callV (0) mw_X7_fits mv_L_43 dL_law_356 (ct_X7_fits hw hN hN30 hnok (xs (6 * i + 1))) hw0.p0 rfl rfl rfl (Nat.le_of_ble_eq_true rfl) (by decide) (by decide) (by omega) (by omega) (fun r1 ws1 hp1 => ?_)
  obtain ⟨rfl, hw1⟩ := hp1
  have hr := hI.rfs (kr_fits nN (xs (6 * i + 1)))
  refine V_aload_n dL_law_359 rfl ?_
  refine V_aload_n dL_law_360 rfl ?_
  refine V_iload dL_law_361 rfl ?_
  refine V_iconst (v := 1) dL_law_363 (by decide) ?_
  refine V_iadd dL_law_364 ?_
  refine V_sld hSc (6 * i + 1) (nI_add (6 * i) 1) (by omega) (by omega) dL_law_365 ?_
  refine V_callV (25) mw_X8_fits mv_L_46 dL_law_366 (ct_X8_fits hw1.1 hr.1.1 hP10 hr.1.2.1 hN30 hr.2.1 (xs (6 * i + 1))) hw1.p25 rfl rfl rfl (Nat.le_of_ble_eq_true rfl) (by decide) (by decide) (by omega) (by omega) (fun r2 ws2 hp2 => ?_)
  obtain ⟨rfl, hw2⟩ := hp2
  have hc := c_fits hI (xs (6 * i + 1))
  refine V_icmp_eq 923 dL_law_369 (by decide) (fun _ => ?_) (fun h => absurd hc.1 h)
  exact K _ _ _ _ _ ⟨el, _, T, n, f, hw2.1, (hd.fr hw1.2).fr hw2.2, (hw2.2.2 46 (by decide)).trans ((hw1.2.2 46 (by decide)).trans ho), hI.iv hc.2⟩ (by omega) (by omega)
end LAW1
