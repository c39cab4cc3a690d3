/-! MACHINE: the law's walk: its cases -/
section LCASES
variable {Y : lB} {L : Nat} {xs : Nat → Int32} {ρ : Nat → Nat × Nat} {x mm o i c : Nat} {sa : Nat × Nat × Nat} {cells slots : Nat} {μ7 μ8 : qM}
set_option maxHeartbeats 4000000 in
set_option maxRecDepth 20000 in
theorem l_feed (hF : lFx Y L xs ρ x mm o sa) (hi : i + 7 ≤ L) (hc : c ≤ 1000000) (hcl : cells ≤ 601024 ∧ slots ≤ 7293034) (hp : pR (y7 Y) ρ x (y8 Y) mm c μ7 μ8) (k : ∀ ν7 ν8, pR (y7 Y) ρ x (y8 Y) mm (c + 1) ν7 ν8 → lNx Y cells slots 1183 (lsv Y x mm o i) [] ν7 ν8) : lNx Y cells slots 152 (lsv Y x mm o i) [] μ7 μ8 := by
  refine l_qr (fun r7 r8 => ?_)
  have hN : 100000 < 1000000 := by decide
  obtain ⟨r, ν7, ν8, e7, e8, hq⟩ := p_feed (N := 1000000) hF.ly hF.mL hp hN (lA xs i 1) (lA xs i 2) (lA xs i 3) (lA xs i 4) (lA xs i 5)
  refine l_aload_n hF (pc := 152) dL_law_152 1 rfl rfl ?_
  refine l_arg hF (pc := 153) hi (k := 1) (by decide) (by decide) 0 4 dL_law_153 dL_law_154 dL_law_156 dL_law_157 dL_law_158 rfl rfl ?_
  refine l_arg hF (pc := 159) hi (k := 2) (by decide) (by decide) 0 4 dL_law_159 dL_law_160 dL_law_162 dL_law_163 dL_law_164 rfl rfl ?_
  refine l_arg hF (pc := 165) hi (k := 3) (by decide) (by decide) 0 4 dL_law_165 dL_law_166 dL_law_168 dL_law_169 dL_law_170 rfl rfl ?_
  refine l_arg hF (pc := 171) hi (k := 4) (by decide) (by decide) 0 4 dL_law_171 dL_law_172 dL_law_174 dL_law_175 dL_law_176 rfl rfl ?_
  refine l_arg hF (pc := 177) hi (k := 5) (by decide) (by decide) 0 4 dL_law_177 dL_law_178 dL_law_180 dL_law_181 dL_law_182 rfl rfl ?_
  refine l_call7 hF (pc := 183) [.int (iZ (lA xs i 1)), .int (iZ (lA xs i 2)), .int (iZ (lA xs i 3)), .int (iZ (lA xs i 4)), .int (iZ (lA xs i 5))] [.int (iZ (lA xs i 5)), .int (iZ (lA xs i 4)), .int (iZ (lA xs i 3)), .int (iZ (lA xs i 2)), .int (iZ (lA xs i 1))] 5 dL_law_183 (goodIn_l gL_law_X7_feed) rfl dd_X7_feed ⟨rfl, rfl⟩ rfl rfl rfl hcl (k_X7_feed (yl Y) hF.T7 hF.k7 lA_in lA_in lA_in lA_in lA_in e7) (fun _ => ?_)
  refine l_aload_n hF (pc := 186) dL_law_186 2 rfl rfl ?_
  refine l_arg hF (pc := 187) hi (k := 1) (by decide) (by decide) 0 4 dL_law_187 dL_law_188 dL_law_190 dL_law_191 dL_law_192 rfl rfl ?_
  refine l_arg hF (pc := 193) hi (k := 2) (by decide) (by decide) 0 4 dL_law_193 dL_law_194 dL_law_196 dL_law_197 dL_law_198 rfl rfl ?_
  refine l_arg hF (pc := 199) hi (k := 3) (by decide) (by decide) 0 4 dL_law_199 dL_law_200 dL_law_202 dL_law_203 dL_law_204 rfl rfl ?_
  refine l_arg hF (pc := 205) hi (k := 4) (by decide) (by decide) 0 4 dL_law_205 dL_law_206 dL_law_208 dL_law_209 dL_law_210 rfl rfl ?_
  refine l_arg hF (pc := 211) hi (k := 5) (by decide) (by decide) 0 4 dL_law_211 dL_law_212 dL_law_214 dL_law_215 dL_law_216 rfl rfl ?_
  refine l_call8 hF (pc := 217) [.int (iZ (lA xs i 1)), .int (iZ (lA xs i 2)), .int (iZ (lA xs i 3)), .int (iZ (lA xs i 4)), .int (iZ (lA xs i 5))] [.int (iZ (lA xs i 5)), .int (iZ (lA xs i 4)), .int (iZ (lA xs i 3)), .int (iZ (lA xs i 2)), .int (iZ (lA xs i 1))] 5 dL_law_217 (goodIn_l gL_law_X8_feed) rfl dd_X8_feed ⟨rfl, rfl⟩ rfl rfl rfl hcl (k_X8_feed (yl Y) hF.T8 hF.k8 lA_in lA_in lA_in lA_in lA_in e8) (fun _ => ?_)
  exact l_same hF (pc := 220) 1183 dL_law_220 (by decide) (k _ _ hq)
set_option maxHeartbeats 4000000 in
set_option maxRecDepth 20000 in
theorem l_message (hF : lFx Y L xs ρ x mm o sa) (hi : i + 7 ≤ L) (hc : c ≤ 1000000) (hcl : cells ≤ 601024 ∧ slots ≤ 7293034) (hp : pR (y7 Y) ρ x (y8 Y) mm c μ7 μ8) (k : ∀ ν7 ν8, pR (y7 Y) ρ x (y8 Y) mm (c + 1) ν7 ν8 → lNx Y cells slots 1183 (lsv Y x mm o i) [] ν7 ν8) : lNx Y cells slots 225 (lsv Y x mm o i) [] μ7 μ8 := by
  refine l_qr (fun r7 r8 => ?_)
  have hN : 100000 < 1000000 := by decide
  have h210 : in32 (gI μ7 210 (gR (y7 Y) 700 x)) := r7.i 210 _ rfl
  obtain ⟨r, ν7, ν8, e7, e8, hq⟩ := p_message (N := 1000000) hF.ly hF.mL hp h210 hc hN (lA xs i 1)
  refine l_aload_n hF (pc := 225) dL_law_225 1 rfl rfl ?_
  refine l_arg hF (pc := 226) hi (k := 1) (by decide) (by decide) 0 4 dL_law_226 dL_law_227 dL_law_229 dL_law_230 dL_law_231 rfl rfl ?_
  refine l_call7 hF (pc := 232) [.int (iZ (lA xs i 1))] [.int (iZ (lA xs i 1))] 1 dL_law_232 (goodIn_l gL_law_X7_message) rfl dd_X7_message ⟨rfl, rfl⟩ rfl rfl rfl hcl (k_X7_message (yl Y) hF.T7 hF.k7 lA_in e7) (fun _ => ?_)
  refine l_aload_n hF (pc := 235) dL_law_235 2 rfl rfl ?_
  refine l_arg hF (pc := 236) hi (k := 1) (by decide) (by decide) 0 4 dL_law_236 dL_law_237 dL_law_239 dL_law_240 dL_law_241 rfl rfl ?_
  refine l_call8 hF (pc := 242) [.int (iZ (lA xs i 1))] [.int (iZ (lA xs i 1))] 1 dL_law_242 (goodIn_l gL_law_X8_message) rfl dd_X8_message ⟨rfl, rfl⟩ rfl rfl rfl hcl (k_X8_message (yl Y) hF.T8 hF.k8 lA_in e8) (fun _ => ?_)
  exact l_same hF (pc := 245) 1183 dL_law_245 (by decide) (k _ _ hq)
set_option maxHeartbeats 4000000 in
set_option maxRecDepth 20000 in
theorem l_order (hF : lFx Y L xs ρ x mm o sa) (hi : i + 7 ≤ L) (hc : c ≤ 1000000) (hcl : cells ≤ 601024 ∧ slots ≤ 7293034) (hp : pR (y7 Y) ρ x (y8 Y) mm c μ7 μ8) (k : ∀ ν7 ν8, pR (y7 Y) ρ x (y8 Y) mm (c + 1) ν7 ν8 → lNx Y cells slots 1183 (lsv Y x mm o i) [] ν7 ν8) : lNx Y cells slots 250 (lsv Y x mm o i) [] μ7 μ8 := by
  refine l_qr (fun r7 r8 => ?_)
  have hN : 100000 < 1000000 := by decide
  have h210 : in32 (gI μ7 210 (gR (y7 Y) 700 x)) := r7.i 210 _ rfl
  obtain ⟨r, ν7, ν8, e7, e8, hq⟩ := p_order (N := 1000000) hF.ly hF.mL hp h210 hc hN (lA xs i 1) (lA xs i 2) (lA xs i 3) (lA xs i 4) (lA xs i 5)
  refine l_aload_n hF (pc := 250) dL_law_250 1 rfl rfl ?_
  refine l_arg hF (pc := 251) hi (k := 1) (by decide) (by decide) 0 4 dL_law_251 dL_law_252 dL_law_254 dL_law_255 dL_law_256 rfl rfl ?_
  refine l_arg hF (pc := 257) hi (k := 2) (by decide) (by decide) 0 4 dL_law_257 dL_law_258 dL_law_260 dL_law_261 dL_law_262 rfl rfl ?_
  refine l_arg hF (pc := 263) hi (k := 3) (by decide) (by decide) 0 4 dL_law_263 dL_law_264 dL_law_266 dL_law_267 dL_law_268 rfl rfl ?_
  refine l_arg hF (pc := 269) hi (k := 4) (by decide) (by decide) 0 4 dL_law_269 dL_law_270 dL_law_272 dL_law_273 dL_law_274 rfl rfl ?_
  refine l_arg hF (pc := 275) hi (k := 5) (by decide) (by decide) 0 4 dL_law_275 dL_law_276 dL_law_278 dL_law_279 dL_law_280 rfl rfl ?_
  refine l_call7 hF (pc := 281) [.int (iZ (lA xs i 1)), .int (iZ (lA xs i 2)), .int (iZ (lA xs i 3)), .int (iZ (lA xs i 4)), .int (iZ (lA xs i 5))] [.int (iZ (lA xs i 5)), .int (iZ (lA xs i 4)), .int (iZ (lA xs i 3)), .int (iZ (lA xs i 2)), .int (iZ (lA xs i 1))] 5 dL_law_281 (goodIn_l gL_law_X7_order) rfl dd_X7_order ⟨rfl, rfl⟩ rfl rfl rfl hcl (k_X7_order (yl Y) hF.T7 hF.k7 lA_in lA_in lA_in lA_in lA_in e7) (fun _ => ?_)
  refine l_aload_n hF (pc := 284) dL_law_284 2 rfl rfl ?_
  refine l_arg hF (pc := 285) hi (k := 1) (by decide) (by decide) 0 4 dL_law_285 dL_law_286 dL_law_288 dL_law_289 dL_law_290 rfl rfl ?_
  refine l_arg hF (pc := 291) hi (k := 2) (by decide) (by decide) 0 4 dL_law_291 dL_law_292 dL_law_294 dL_law_295 dL_law_296 rfl rfl ?_
  refine l_arg hF (pc := 297) hi (k := 3) (by decide) (by decide) 0 4 dL_law_297 dL_law_298 dL_law_300 dL_law_301 dL_law_302 rfl rfl ?_
  refine l_arg hF (pc := 303) hi (k := 4) (by decide) (by decide) 0 4 dL_law_303 dL_law_304 dL_law_306 dL_law_307 dL_law_308 rfl rfl ?_
  refine l_arg hF (pc := 309) hi (k := 5) (by decide) (by decide) 0 4 dL_law_309 dL_law_310 dL_law_312 dL_law_313 dL_law_314 rfl rfl ?_
  refine l_call8 hF (pc := 315) [.int (iZ (lA xs i 1)), .int (iZ (lA xs i 2)), .int (iZ (lA xs i 3)), .int (iZ (lA xs i 4)), .int (iZ (lA xs i 5))] [.int (iZ (lA xs i 5)), .int (iZ (lA xs i 4)), .int (iZ (lA xs i 3)), .int (iZ (lA xs i 2)), .int (iZ (lA xs i 1))] 5 dL_law_315 (goodIn_l gL_law_X8_order) rfl dd_X8_order ⟨rfl, rfl⟩ rfl rfl rfl hcl (k_X8_order (yl Y) hF.T8 hF.k8 lA_in lA_in lA_in lA_in lA_in e8) (fun _ => ?_)
  exact l_same hF (pc := 318) 1183 dL_law_318 (by decide) (k _ _ hq)
set_option maxHeartbeats 4000000 in
set_option maxRecDepth 20000 in
theorem l_off (hF : lFx Y L xs ρ x mm o sa) (hi : i + 7 ≤ L) (hc : c ≤ 1000000) (hcl : cells ≤ 601024 ∧ slots ≤ 7293034) (hp : pR (y7 Y) ρ x (y8 Y) mm c μ7 μ8) (k : ∀ ν7 ν8, pR (y7 Y) ρ x (y8 Y) mm (c + 1) ν7 ν8 → lNx Y cells slots 1183 (lsv Y x mm o i) [] ν7 ν8) : lNx Y cells slots 323 (lsv Y x mm o i) [] μ7 μ8 := by
  refine l_qr (fun r7 r8 => ?_)
  have hN : 100000 < 1000000 := by decide
  obtain ⟨r, ν7, ν8, e7, e8, hq⟩ := p_off (N := 1000000) hF.ly hF.mL hp hc hN (lA xs i 1)
  refine l_aload_n hF (pc := 323) dL_law_323 1 rfl rfl ?_
  refine l_arg hF (pc := 324) hi (k := 1) (by decide) (by decide) 0 4 dL_law_324 dL_law_325 dL_law_327 dL_law_328 dL_law_329 rfl rfl ?_
  refine l_call7 hF (pc := 330) [.int (iZ (lA xs i 1))] [.int (iZ (lA xs i 1))] 1 dL_law_330 (goodIn_l gL_law_X7_off) rfl dd_X7_off ⟨rfl, rfl⟩ rfl rfl rfl hcl (k_X7_off (yl Y) hF.T7 hF.k7 lA_in e7) (fun _ => ?_)
  refine l_aload_n hF (pc := 333) dL_law_333 2 rfl rfl ?_
  refine l_arg hF (pc := 334) hi (k := 1) (by decide) (by decide) 0 4 dL_law_334 dL_law_335 dL_law_337 dL_law_338 dL_law_339 rfl rfl ?_
  refine l_call8 hF (pc := 340) [.int (iZ (lA xs i 1))] [.int (iZ (lA xs i 1))] 1 dL_law_340 (goodIn_l gL_law_X8_off) rfl dd_X8_off ⟨rfl, rfl⟩ rfl rfl rfl hcl (k_X8_off (yl Y) hF.T8 hF.k8 lA_in e8) (fun _ => ?_)
  exact l_same hF (pc := 343) 1183 dL_law_343 (by decide) (k _ _ hq)
set_option maxHeartbeats 4000000 in
set_option maxRecDepth 20000 in
theorem l_cut (hF : lFx Y L xs ρ x mm o sa) (hi : i + 7 ≤ L) (hc : c ≤ 1000000) (hcl : cells ≤ 601024 ∧ slots ≤ 7293034) (hp : pR (y7 Y) ρ x (y8 Y) mm c μ7 μ8) (k : ∀ ν7 ν8, pR (y7 Y) ρ x (y8 Y) mm (c + 1) ν7 ν8 → lNx Y cells slots 1183 (lsv Y x mm o i) [] ν7 ν8) : lNx Y cells slots 348 (lsv Y x mm o i) [] μ7 μ8 := by
  refine l_qr (fun r7 r8 => ?_)
  have hN : 100000 < 1000000 := by decide
  obtain ⟨r, ν7, ν8, e7, e8, hq⟩ := p_cut (N := 1000000) hF.ly hF.mL hp hc hN (lA xs i 1) (lA xs i 2)
  refine l_aload_n hF (pc := 348) dL_law_348 1 rfl rfl ?_
  refine l_arg hF (pc := 349) hi (k := 1) (by decide) (by decide) 0 4 dL_law_349 dL_law_350 dL_law_352 dL_law_353 dL_law_354 rfl rfl ?_
  refine l_arg hF (pc := 355) hi (k := 2) (by decide) (by decide) 0 4 dL_law_355 dL_law_356 dL_law_358 dL_law_359 dL_law_360 rfl rfl ?_
  refine l_call7 hF (pc := 361) [.int (iZ (lA xs i 1)), .int (iZ (lA xs i 2))] [.int (iZ (lA xs i 2)), .int (iZ (lA xs i 1))] 2 dL_law_361 (goodIn_l gL_law_X7_cut) rfl dd_X7_cut ⟨rfl, rfl⟩ rfl rfl rfl hcl (k_X7_cut (yl Y) hF.T7 hF.k7 lA_in lA_in e7) (fun _ => ?_)
  refine l_aload_n hF (pc := 364) dL_law_364 2 rfl rfl ?_
  refine l_arg hF (pc := 365) hi (k := 1) (by decide) (by decide) 0 4 dL_law_365 dL_law_366 dL_law_368 dL_law_369 dL_law_370 rfl rfl ?_
  refine l_arg hF (pc := 371) hi (k := 2) (by decide) (by decide) 0 4 dL_law_371 dL_law_372 dL_law_374 dL_law_375 dL_law_376 rfl rfl ?_
  refine l_call8 hF (pc := 377) [.int (iZ (lA xs i 1)), .int (iZ (lA xs i 2))] [.int (iZ (lA xs i 2)), .int (iZ (lA xs i 1))] 2 dL_law_377 (goodIn_l gL_law_X8_cut) rfl dd_X8_cut ⟨rfl, rfl⟩ rfl rfl rfl hcl (k_X8_cut (yl Y) hF.T8 hF.k8 lA_in lA_in e8) (fun _ => ?_)
  exact l_same hF (pc := 380) 1183 dL_law_380 (by decide) (k _ _ hq)
set_option maxHeartbeats 4000000 in
set_option maxRecDepth 20000 in
theorem l_grant (hF : lFx Y L xs ρ x mm o sa) (hi : i + 7 ≤ L) (hc : c ≤ 1000000) (hcl : cells ≤ 601024 ∧ slots ≤ 7293034) (hp : pR (y7 Y) ρ x (y8 Y) mm c μ7 μ8) (k : ∀ ν7 ν8, pR (y7 Y) ρ x (y8 Y) mm (c + 1) ν7 ν8 → lNx Y cells slots 1183 (lsv Y x mm o i) [] ν7 ν8) : lNx Y cells slots 385 (lsv Y x mm o i) [] μ7 μ8 := by
  refine l_qr (fun r7 r8 => ?_)
  have hN : 100000 < 1000000 := by decide
  obtain ⟨r, ν7, ν8, e7, e8, hq⟩ := p_grant (N := 1000000) hF.ly hF.mL hp hc (lA xs i 1)
  refine l_aload_n hF (pc := 385) dL_law_385 1 rfl rfl ?_
  refine l_arg hF (pc := 386) hi (k := 1) (by decide) (by decide) 0 4 dL_law_386 dL_law_387 dL_law_389 dL_law_390 dL_law_391 rfl rfl ?_
  refine l_call7 hF (pc := 392) [.int (iZ (lA xs i 1))] [.int (iZ (lA xs i 1))] 1 dL_law_392 (goodIn_l gL_law_X7_grant) rfl dd_X7_grant ⟨rfl, rfl⟩ rfl rfl rfl hcl (k_X7_grant (yl Y) hF.T7 hF.k7 lA_in e7) (fun _ => ?_)
  refine l_aload_n hF (pc := 395) dL_law_395 2 rfl rfl ?_
  refine l_arg hF (pc := 396) hi (k := 1) (by decide) (by decide) 0 4 dL_law_396 dL_law_397 dL_law_399 dL_law_400 dL_law_401 rfl rfl ?_
  refine l_call8 hF (pc := 402) [.int (iZ (lA xs i 1))] [.int (iZ (lA xs i 1))] 1 dL_law_402 (goodIn_l gL_law_X8_grant) rfl dd_X8_grant ⟨rfl, rfl⟩ rfl rfl rfl hcl (k_X8_grant (yl Y) hF.T8 hF.k8 lA_in e8) (fun _ => ?_)
  exact l_same hF (pc := 405) 1183 dL_law_405 (by decide) (k _ _ hq)
set_option maxHeartbeats 4000000 in
set_option maxRecDepth 20000 in
theorem l_least (hF : lFx Y L xs ρ x mm o sa) (hi : i + 7 ≤ L) (hc : c ≤ 1000000) (hcl : cells ≤ 601024 ∧ slots ≤ 7293034) (hp : pR (y7 Y) ρ x (y8 Y) mm c μ7 μ8) (k : ∀ ν7 ν8, pR (y7 Y) ρ x (y8 Y) mm (c + 1) ν7 ν8 → lNx Y cells slots 1183 (lsv Y x mm o i) [] ν7 ν8) : lNx Y cells slots 410 (lsv Y x mm o i) [] μ7 μ8 := by
  refine l_qr (fun r7 r8 => ?_)
  have hN : 100000 < 1000000 := by decide
  obtain ⟨r, ν7, ν8, e7, e8, hq⟩ := p_least (N := 1000000) hF.ly hF.mL hp hc (lA xs i 1)
  refine l_aload_n hF (pc := 410) dL_law_410 1 rfl rfl ?_
  refine l_arg hF (pc := 411) hi (k := 1) (by decide) (by decide) 0 4 dL_law_411 dL_law_412 dL_law_414 dL_law_415 dL_law_416 rfl rfl ?_
  refine l_call7 hF (pc := 417) [.int (iZ (lA xs i 1))] [.int (iZ (lA xs i 1))] 1 dL_law_417 (goodIn_l gL_law_X7_least) rfl dd_X7_least ⟨rfl, rfl⟩ rfl rfl rfl hcl (k_X7_least (yl Y) hF.T7 hF.k7 lA_in e7) (fun _ => ?_)
  refine l_aload_n hF (pc := 420) dL_law_420 2 rfl rfl ?_
  refine l_arg hF (pc := 421) hi (k := 1) (by decide) (by decide) 0 4 dL_law_421 dL_law_422 dL_law_424 dL_law_425 dL_law_426 rfl rfl ?_
  refine l_call8 hF (pc := 427) [.int (iZ (lA xs i 1))] [.int (iZ (lA xs i 1))] 1 dL_law_427 (goodIn_l gL_law_X8_least) rfl dd_X8_least ⟨rfl, rfl⟩ rfl rfl rfl hcl (k_X8_least (yl Y) hF.T8 hF.k8 lA_in e8) (fun _ => ?_)
  exact l_same hF (pc := 430) 1183 dL_law_430 (by decide) (k _ _ hq)
set_option maxHeartbeats 4000000 in
set_option maxRecDepth 20000 in
theorem l_call (hF : lFx Y L xs ρ x mm o sa) (hi : i + 7 ≤ L) (hc : c ≤ 1000000) (hcl : cells ≤ 601024 ∧ slots ≤ 7293034) (hp : pR (y7 Y) ρ x (y8 Y) mm c μ7 μ8) (k : ∀ ν7 ν8, pR (y7 Y) ρ x (y8 Y) mm (c + 1) ν7 ν8 → lNx Y cells slots 1183 (lsv Y x mm o i) [] ν7 ν8) : lNx Y cells slots 435 (lsv Y x mm o i) [] μ7 μ8 := by
  refine l_qr (fun r7 r8 => ?_)
  have hN : 100000 < 1000000 := by decide
  obtain ⟨r, ν7, ν8, e7, e8, hq⟩ := p_call (N := 1000000) hF.ly hF.mL hp hc hN 
  refine l_aload_n hF (pc := 435) dL_law_435 1 rfl rfl ?_
  refine l_call7 hF (pc := 436) [] [] 0 dL_law_436 (goodIn_l gL_law_X7_call) rfl dd_X7_call ⟨rfl, rfl⟩ rfl rfl rfl hcl (k_X7_call (yl Y) hF.T7 hF.k7  e7) (fun _ => ?_)
  refine l_aload_n hF (pc := 439) dL_law_439 2 rfl rfl ?_
  refine l_call8 hF (pc := 440) [] [] 0 dL_law_440 (goodIn_l gL_law_X8_call) rfl dd_X8_call ⟨rfl, rfl⟩ rfl rfl rfl hcl (k_X8_call (yl Y) hF.T8 hF.k8  e8) (fun _ => ?_)
  exact l_same hF (pc := 443) 1183 dL_law_443 (by decide) (k _ _ hq)
set_option maxHeartbeats 4000000 in
set_option maxRecDepth 20000 in
theorem l_open (hF : lFx Y L xs ρ x mm o sa) (hi : i + 7 ≤ L) (hc : c ≤ 1000000) (hcl : cells ≤ 601024 ∧ slots ≤ 7293034) (hp : pR (y7 Y) ρ x (y8 Y) mm c μ7 μ8) (k : ∀ ν7 ν8, pR (y7 Y) ρ x (y8 Y) mm (c + 1) ν7 ν8 → lNx Y cells slots 1183 (lsv Y x mm o i) [] ν7 ν8) : lNx Y cells slots 448 (lsv Y x mm o i) [] μ7 μ8 := by
  refine l_qr (fun r7 r8 => ?_)
  have hN : 100000 < 1000000 := by decide
  obtain ⟨r, ν7, ν8, e7, e8, hq⟩ := p_open (N := 1000000) hF.ly hF.mL hp hN 
  refine l_aload_n hF (pc := 448) dL_law_448 1 rfl rfl ?_
  refine l_call7 hF (pc := 449) [] [] 0 dL_law_449 (goodIn_l gL_law_X7_open) rfl dd_X7_open ⟨rfl, rfl⟩ rfl rfl rfl hcl (k_X7_open (yl Y) hF.T7 hF.k7  e7) (fun _ => ?_)
  refine l_aload_n hF (pc := 452) dL_law_452 2 rfl rfl ?_
  refine l_call8 hF (pc := 453) [] [] 0 dL_law_453 (goodIn_l gL_law_X8_open) rfl dd_X8_open ⟨rfl, rfl⟩ rfl rfl rfl hcl (k_X8_open (yl Y) hF.T8 hF.k8  e8) (fun _ => ?_)
  exact l_same hF (pc := 456) 1183 dL_law_456 (by decide) (k _ _ hq)
set_option maxHeartbeats 4000000 in
set_option maxRecDepth 20000 in
theorem l_level (hF : lFx Y L xs ρ x mm o sa) (hi : i + 7 ≤ L) (hc : c ≤ 1000000) (hcl : cells ≤ 601024 ∧ slots ≤ 7293034) (hp : pR (y7 Y) ρ x (y8 Y) mm c μ7 μ8) (k : ∀ ν7 ν8, pR (y7 Y) ρ x (y8 Y) mm (c + 1) ν7 ν8 → lNx Y cells slots 1183 (lsv Y x mm o i) [] ν7 ν8) : lNx Y cells slots 529 (lsv Y x mm o i) [] μ7 μ8 := by
  refine l_qr (fun r7 r8 => ?_)
  have hN : 100000 < 1000000 := by decide
  obtain ⟨r, ν7, ν8, e7, e8, hq⟩ := p_level (N := 1000000) hp hN (lA xs i 1) (lA xs i 2) (lA xs i 3)
  refine l_aload_n hF (pc := 529) dL_law_529 1 rfl rfl ?_
  refine l_arg hF (pc := 530) hi (k := 1) (by decide) (by decide) 0 4 dL_law_530 dL_law_531 dL_law_533 dL_law_534 dL_law_535 rfl rfl ?_
  refine l_arg hF (pc := 536) hi (k := 2) (by decide) (by decide) 0 4 dL_law_536 dL_law_537 dL_law_539 dL_law_540 dL_law_541 rfl rfl ?_
  refine l_arg hF (pc := 542) hi (k := 3) (by decide) (by decide) 0 4 dL_law_542 dL_law_543 dL_law_545 dL_law_546 dL_law_547 rfl rfl ?_
  refine l_call7 hF (pc := 548) [.int (iZ (lA xs i 1)), .int (iZ (lA xs i 2)), .int (iZ (lA xs i 3))] [.int (iZ (lA xs i 3)), .int (iZ (lA xs i 2)), .int (iZ (lA xs i 1))] 3 dL_law_548 (goodIn_l gL_law_X7_level) rfl dd_X7_level ⟨rfl, rfl⟩ rfl rfl rfl hcl (k_X7_level (yl Y) hF.T7 hF.k7 lA_in lA_in lA_in e7) (fun _ => ?_)
  refine l_aload_n hF (pc := 551) dL_law_551 2 rfl rfl ?_
  refine l_arg hF (pc := 552) hi (k := 1) (by decide) (by decide) 0 4 dL_law_552 dL_law_553 dL_law_555 dL_law_556 dL_law_557 rfl rfl ?_
  refine l_arg hF (pc := 558) hi (k := 2) (by decide) (by decide) 0 4 dL_law_558 dL_law_559 dL_law_561 dL_law_562 dL_law_563 rfl rfl ?_
  refine l_arg hF (pc := 564) hi (k := 3) (by decide) (by decide) 0 4 dL_law_564 dL_law_565 dL_law_567 dL_law_568 dL_law_569 rfl rfl ?_
  refine l_call8 hF (pc := 570) [.int (iZ (lA xs i 1)), .int (iZ (lA xs i 2)), .int (iZ (lA xs i 3))] [.int (iZ (lA xs i 3)), .int (iZ (lA xs i 2)), .int (iZ (lA xs i 1))] 3 dL_law_570 (goodIn_l gL_law_X8_level) rfl dd_X8_level ⟨rfl, rfl⟩ rfl rfl rfl hcl (k_X8_level (yl Y) hF.T8 hF.k8 lA_in lA_in lA_in e8) (fun _ => ?_)
  exact l_same hF (pc := 573) 1183 dL_law_573 (by decide) (k _ _ hq)
set_option maxHeartbeats 4000000 in
set_option maxRecDepth 20000 in
theorem l_queue (hF : lFx Y L xs ρ x mm o sa) (hi : i + 7 ≤ L) (hc : c ≤ 1000000) (hcl : cells ≤ 601024 ∧ slots ≤ 7293034) (hp : pR (y7 Y) ρ x (y8 Y) mm c μ7 μ8) (k : ∀ ν7 ν8, pR (y7 Y) ρ x (y8 Y) mm (c + 1) ν7 ν8 → lNx Y cells slots 1183 (lsv Y x mm o i) [] ν7 ν8) : lNx Y cells slots 578 (lsv Y x mm o i) [] μ7 μ8 := by
  refine l_qr (fun r7 r8 => ?_)
  have hN : 100000 < 1000000 := by decide
  obtain ⟨r, ν7, ν8, e7, e8, hq⟩ := p_queue (N := 1000000) hp hN (lA xs i 1) (lA xs i 2) (lA xs i 3)
  refine l_aload_n hF (pc := 578) dL_law_578 1 rfl rfl ?_
  refine l_arg hF (pc := 579) hi (k := 1) (by decide) (by decide) 0 4 dL_law_579 dL_law_580 dL_law_582 dL_law_583 dL_law_584 rfl rfl ?_
  refine l_arg hF (pc := 585) hi (k := 2) (by decide) (by decide) 0 4 dL_law_585 dL_law_586 dL_law_588 dL_law_589 dL_law_590 rfl rfl ?_
  refine l_arg hF (pc := 591) hi (k := 3) (by decide) (by decide) 0 4 dL_law_591 dL_law_592 dL_law_594 dL_law_595 dL_law_596 rfl rfl ?_
  refine l_call7 hF (pc := 597) [.int (iZ (lA xs i 1)), .int (iZ (lA xs i 2)), .int (iZ (lA xs i 3))] [.int (iZ (lA xs i 3)), .int (iZ (lA xs i 2)), .int (iZ (lA xs i 1))] 3 dL_law_597 (goodIn_l gL_law_X7_queue) rfl dd_X7_queue ⟨rfl, rfl⟩ rfl rfl rfl hcl (k_X7_queue (yl Y) hF.T7 hF.k7 lA_in lA_in lA_in e7) (fun _ => ?_)
  refine l_aload_n hF (pc := 600) dL_law_600 2 rfl rfl ?_
  refine l_arg hF (pc := 601) hi (k := 1) (by decide) (by decide) 0 4 dL_law_601 dL_law_602 dL_law_604 dL_law_605 dL_law_606 rfl rfl ?_
  refine l_arg hF (pc := 607) hi (k := 2) (by decide) (by decide) 0 4 dL_law_607 dL_law_608 dL_law_610 dL_law_611 dL_law_612 rfl rfl ?_
  refine l_arg hF (pc := 613) hi (k := 3) (by decide) (by decide) 0 4 dL_law_613 dL_law_614 dL_law_616 dL_law_617 dL_law_618 rfl rfl ?_
  refine l_call8 hF (pc := 619) [.int (iZ (lA xs i 1)), .int (iZ (lA xs i 2)), .int (iZ (lA xs i 3))] [.int (iZ (lA xs i 3)), .int (iZ (lA xs i 2)), .int (iZ (lA xs i 1))] 3 dL_law_619 (goodIn_l gL_law_X8_queue) rfl dd_X8_queue ⟨rfl, rfl⟩ rfl rfl rfl hcl (k_X8_queue (yl Y) hF.T8 hF.k8 lA_in lA_in lA_in e8) (fun _ => ?_)
  exact l_same hF (pc := 622) 1183 dL_law_622 (by decide) (k _ _ hq)
set_option maxHeartbeats 4000000 in
set_option maxRecDepth 20000 in
theorem l_top (hF : lFx Y L xs ρ x mm o sa) (hi : i + 7 ≤ L) (hc : c ≤ 1000000) (hcl : cells ≤ 601024 ∧ slots ≤ 7293034) (hp : pR (y7 Y) ρ x (y8 Y) mm c μ7 μ8) (k : ∀ ν7 ν8, pR (y7 Y) ρ x (y8 Y) mm (c + 1) ν7 ν8 → lNx Y cells slots 1183 (lsv Y x mm o i) [] ν7 ν8) : lNx Y cells slots 627 (lsv Y x mm o i) [] μ7 μ8 := by
  refine l_qr (fun r7 r8 => ?_)
  have hN : 100000 < 1000000 := by decide
  obtain ⟨r, ν7, ν8, e7, e8, hq⟩ := p_top (N := 1000000) hp (lA xs i 1)
  refine l_aload_n hF (pc := 627) dL_law_627 1 rfl rfl ?_
  refine l_arg hF (pc := 628) hi (k := 1) (by decide) (by decide) 0 4 dL_law_628 dL_law_629 dL_law_631 dL_law_632 dL_law_633 rfl rfl ?_
  refine l_call7 hF (pc := 634) [.int (iZ (lA xs i 1))] [.int (iZ (lA xs i 1))] 1 dL_law_634 (goodIn_l gL_law_X7_top) rfl dd_X7_top ⟨rfl, rfl⟩ rfl rfl rfl hcl (k_X7_top (yl Y) hF.T7 hF.k7 lA_in e7) (fun _ => ?_)
  refine l_aload_n hF (pc := 637) dL_law_637 2 rfl rfl ?_
  refine l_arg hF (pc := 638) hi (k := 1) (by decide) (by decide) 0 4 dL_law_638 dL_law_639 dL_law_641 dL_law_642 dL_law_643 rfl rfl ?_
  refine l_call8 hF (pc := 644) [.int (iZ (lA xs i 1))] [.int (iZ (lA xs i 1))] 1 dL_law_644 (goodIn_l gL_law_X8_top) rfl dd_X8_top ⟨rfl, rfl⟩ rfl rfl rfl hcl (k_X8_top (yl Y) hF.T8 hF.k8 lA_in e8) (fun _ => ?_)
  exact l_same hF (pc := 647) 1183 dL_law_647 (by decide) (k _ _ hq)
set_option maxHeartbeats 4000000 in
set_option maxRecDepth 20000 in
theorem l_ahead (hF : lFx Y L xs ρ x mm o sa) (hi : i + 7 ≤ L) (hc : c ≤ 1000000) (hcl : cells ≤ 601024 ∧ slots ≤ 7293034) (hp : pR (y7 Y) ρ x (y8 Y) mm c μ7 μ8) (k : ∀ ν7 ν8, pR (y7 Y) ρ x (y8 Y) mm (c + 1) ν7 ν8 → lNx Y cells slots 1183 (lsv Y x mm o i) [] ν7 ν8) : lNx Y cells slots 652 (lsv Y x mm o i) [] μ7 μ8 := by
  refine l_qr (fun r7 r8 => ?_)
  have hN : 100000 < 1000000 := by decide
  obtain ⟨r, ν7, ν8, e7, e8, hq⟩ := p_ahead (N := 1000000) hp hN (lA xs i 1) (lA xs i 2)
  refine l_aload_n hF (pc := 652) dL_law_652 1 rfl rfl ?_
  refine l_arg hF (pc := 653) hi (k := 1) (by decide) (by decide) 0 4 dL_law_653 dL_law_654 dL_law_656 dL_law_657 dL_law_658 rfl rfl ?_
  refine l_arg hF (pc := 659) hi (k := 2) (by decide) (by decide) 0 4 dL_law_659 dL_law_660 dL_law_662 dL_law_663 dL_law_664 rfl rfl ?_
  refine l_call7 hF (pc := 665) [.int (iZ (lA xs i 1)), .int (iZ (lA xs i 2))] [.int (iZ (lA xs i 2)), .int (iZ (lA xs i 1))] 2 dL_law_665 (goodIn_l gL_law_X7_ahead) rfl dd_X7_ahead ⟨rfl, rfl⟩ rfl rfl rfl hcl (k_X7_ahead (yl Y) hF.T7 hF.k7 lA_in lA_in e7) (fun _ => ?_)
  refine l_aload_n hF (pc := 668) dL_law_668 2 rfl rfl ?_
  refine l_arg hF (pc := 669) hi (k := 1) (by decide) (by decide) 0 4 dL_law_669 dL_law_670 dL_law_672 dL_law_673 dL_law_674 rfl rfl ?_
  refine l_arg hF (pc := 675) hi (k := 2) (by decide) (by decide) 0 4 dL_law_675 dL_law_676 dL_law_678 dL_law_679 dL_law_680 rfl rfl ?_
  refine l_call8 hF (pc := 681) [.int (iZ (lA xs i 1)), .int (iZ (lA xs i 2))] [.int (iZ (lA xs i 2)), .int (iZ (lA xs i 1))] 2 dL_law_681 (goodIn_l gL_law_X8_ahead) rfl dd_X8_ahead ⟨rfl, rfl⟩ rfl rfl rfl hcl (k_X8_ahead (yl Y) hF.T8 hF.k8 lA_in lA_in e8) (fun _ => ?_)
  exact l_same hF (pc := 684) 1183 dL_law_684 (by decide) (k _ _ hq)
set_option maxHeartbeats 4000000 in
set_option maxRecDepth 20000 in
theorem l_share (hF : lFx Y L xs ρ x mm o sa) (hi : i + 7 ≤ L) (hc : c ≤ 1000000) (hcl : cells ≤ 601024 ∧ slots ≤ 7293034) (hp : pR (y7 Y) ρ x (y8 Y) mm c μ7 μ8) (k : ∀ ν7 ν8, pR (y7 Y) ρ x (y8 Y) mm (c + 1) ν7 ν8 → lNx Y cells slots 1183 (lsv Y x mm o i) [] ν7 ν8) : lNx Y cells slots 689 (lsv Y x mm o i) [] μ7 μ8 := by
  refine l_qr (fun r7 r8 => ?_)
  have hN : 100000 < 1000000 := by decide
  obtain ⟨r, ν7, ν8, e7, e8, hq⟩ := p_share (N := 1000000) hF.ly hF.mL hp hN (lA xs i 1) (lA xs i 2) (lA xs i 3)
  refine l_aload_n hF (pc := 689) dL_law_689 1 rfl rfl ?_
  refine l_arg hF (pc := 690) hi (k := 1) (by decide) (by decide) 0 4 dL_law_690 dL_law_691 dL_law_693 dL_law_694 dL_law_695 rfl rfl ?_
  refine l_arg hF (pc := 696) hi (k := 2) (by decide) (by decide) 0 4 dL_law_696 dL_law_697 dL_law_699 dL_law_700 dL_law_701 rfl rfl ?_
  refine l_arg hF (pc := 702) hi (k := 3) (by decide) (by decide) 0 4 dL_law_702 dL_law_703 dL_law_705 dL_law_706 dL_law_707 rfl rfl ?_
  refine l_call7 hF (pc := 708) [.int (iZ (lA xs i 1)), .int (iZ (lA xs i 2)), .int (iZ (lA xs i 3))] [.int (iZ (lA xs i 3)), .int (iZ (lA xs i 2)), .int (iZ (lA xs i 1))] 3 dL_law_708 (goodIn_l gL_law_X7_share) rfl dd_X7_share ⟨rfl, rfl⟩ rfl rfl rfl hcl (k_X7_share (yl Y) hF.T7 hF.k7 lA_in lA_in lA_in e7) (fun _ => ?_)
  refine l_aload_n hF (pc := 711) dL_law_711 2 rfl rfl ?_
  refine l_arg hF (pc := 712) hi (k := 1) (by decide) (by decide) 0 4 dL_law_712 dL_law_713 dL_law_715 dL_law_716 dL_law_717 rfl rfl ?_
  refine l_arg hF (pc := 718) hi (k := 2) (by decide) (by decide) 0 4 dL_law_718 dL_law_719 dL_law_721 dL_law_722 dL_law_723 rfl rfl ?_
  refine l_arg hF (pc := 724) hi (k := 3) (by decide) (by decide) 0 4 dL_law_724 dL_law_725 dL_law_727 dL_law_728 dL_law_729 rfl rfl ?_
  refine l_call8 hF (pc := 730) [.int (iZ (lA xs i 1)), .int (iZ (lA xs i 2)), .int (iZ (lA xs i 3))] [.int (iZ (lA xs i 3)), .int (iZ (lA xs i 2)), .int (iZ (lA xs i 1))] 3 dL_law_730 (goodIn_l gL_law_X8_share) rfl dd_X8_share ⟨rfl, rfl⟩ rfl rfl rfl hcl (k_X8_share (yl Y) hF.T8 hF.k8 lA_in lA_in lA_in e8) (fun _ => ?_)
  exact l_same hF (pc := 733) 1183 dL_law_733 (by decide) (k _ _ hq)
set_option maxHeartbeats 4000000 in
set_option maxRecDepth 20000 in
theorem l_takeFor (hF : lFx Y L xs ρ x mm o sa) (hi : i + 7 ≤ L) (hc : c ≤ 1000000) (hcl : cells ≤ 601024 ∧ slots ≤ 7293034) (hp : pR (y7 Y) ρ x (y8 Y) mm c μ7 μ8) (k : ∀ ν7 ν8, pR (y7 Y) ρ x (y8 Y) mm (c + 1) ν7 ν8 → lNx Y cells slots 1183 (lsv Y x mm o i) [] ν7 ν8) : lNx Y cells slots 738 (lsv Y x mm o i) [] μ7 μ8 := by
  refine l_qr (fun r7 r8 => ?_)
  have hN : 100000 < 1000000 := by decide
  obtain ⟨r, ν7, ν8, e7, e8, hq⟩ := p_takeFor (N := 1000000) hF.ly hF.mL hp hN (lA xs i 1) (lA xs i 2)
  refine l_aload_n hF (pc := 738) dL_law_738 1 rfl rfl ?_
  refine l_arg hF (pc := 739) hi (k := 1) (by decide) (by decide) 0 4 dL_law_739 dL_law_740 dL_law_742 dL_law_743 dL_law_744 rfl rfl ?_
  refine l_arg hF (pc := 745) hi (k := 2) (by decide) (by decide) 0 4 dL_law_745 dL_law_746 dL_law_748 dL_law_749 dL_law_750 rfl rfl ?_
  refine l_call7 hF (pc := 751) [.int (iZ (lA xs i 1)), .int (iZ (lA xs i 2))] [.int (iZ (lA xs i 2)), .int (iZ (lA xs i 1))] 2 dL_law_751 (goodIn_l gL_law_X7_takeFor) rfl dd_X7_takeFor ⟨rfl, rfl⟩ rfl rfl rfl hcl (k_X7_takeFor (yl Y) hF.T7 hF.k7 lA_in lA_in e7) (fun _ => ?_)
  refine l_aload_n hF (pc := 754) dL_law_754 2 rfl rfl ?_
  refine l_arg hF (pc := 755) hi (k := 1) (by decide) (by decide) 0 4 dL_law_755 dL_law_756 dL_law_758 dL_law_759 dL_law_760 rfl rfl ?_
  refine l_arg hF (pc := 761) hi (k := 2) (by decide) (by decide) 0 4 dL_law_761 dL_law_762 dL_law_764 dL_law_765 dL_law_766 rfl rfl ?_
  refine l_call8 hF (pc := 767) [.int (iZ (lA xs i 1)), .int (iZ (lA xs i 2))] [.int (iZ (lA xs i 2)), .int (iZ (lA xs i 1))] 2 dL_law_767 (goodIn_l gL_law_X8_takeFor) rfl dd_X8_takeFor ⟨rfl, rfl⟩ rfl rfl rfl hcl (k_X8_takeFor (yl Y) hF.T8 hF.k8 lA_in lA_in e8) (fun _ => ?_)
  exact l_same hF (pc := 770) 1183 dL_law_770 (by decide) (k _ _ hq)
set_option maxHeartbeats 4000000 in
set_option maxRecDepth 20000 in
theorem l_splits (hF : lFx Y L xs ρ x mm o sa) (hi : i + 7 ≤ L) (hc : c ≤ 1000000) (hcl : cells ≤ 601024 ∧ slots ≤ 7293034) (hp : pR (y7 Y) ρ x (y8 Y) mm c μ7 μ8) (k : ∀ ν7 ν8, pR (y7 Y) ρ x (y8 Y) mm (c + 1) ν7 ν8 → lNx Y cells slots 1183 (lsv Y x mm o i) [] ν7 ν8) : lNx Y cells slots 775 (lsv Y x mm o i) [] μ7 μ8 := by
  refine l_qr (fun r7 r8 => ?_)
  have hN : 100000 < 1000000 := by decide
  obtain ⟨r, ν7, ν8, e7, e8, hq⟩ := p_splits (N := 1000000) hF.ly hF.mL hp hN (lA xs i 1) (lA xs i 2) (lA xs i 3)
  refine l_aload_n hF (pc := 775) dL_law_775 1 rfl rfl ?_
  refine l_arg hF (pc := 776) hi (k := 1) (by decide) (by decide) 0 4 dL_law_776 dL_law_777 dL_law_779 dL_law_780 dL_law_781 rfl rfl ?_
  refine l_arg hF (pc := 782) hi (k := 2) (by decide) (by decide) 0 4 dL_law_782 dL_law_783 dL_law_785 dL_law_786 dL_law_787 rfl rfl ?_
  refine l_arg hF (pc := 788) hi (k := 3) (by decide) (by decide) 0 4 dL_law_788 dL_law_789 dL_law_791 dL_law_792 dL_law_793 rfl rfl ?_
  refine l_call7 hF (pc := 794) [.int (iZ (lA xs i 1)), .int (iZ (lA xs i 2)), .int (iZ (lA xs i 3))] [.int (iZ (lA xs i 3)), .int (iZ (lA xs i 2)), .int (iZ (lA xs i 1))] 3 dL_law_794 (goodIn_l gL_law_X7_splits) rfl dd_X7_splits ⟨rfl, rfl⟩ rfl rfl rfl hcl (k_X7_splits (yl Y) hF.T7 hF.k7 lA_in lA_in lA_in e7) (fun _ => ?_)
  refine l_aload_n hF (pc := 797) dL_law_797 2 rfl rfl ?_
  refine l_arg hF (pc := 798) hi (k := 1) (by decide) (by decide) 0 4 dL_law_798 dL_law_799 dL_law_801 dL_law_802 dL_law_803 rfl rfl ?_
  refine l_arg hF (pc := 804) hi (k := 2) (by decide) (by decide) 0 4 dL_law_804 dL_law_805 dL_law_807 dL_law_808 dL_law_809 rfl rfl ?_
  refine l_arg hF (pc := 810) hi (k := 3) (by decide) (by decide) 0 4 dL_law_810 dL_law_811 dL_law_813 dL_law_814 dL_law_815 rfl rfl ?_
  refine l_call8 hF (pc := 816) [.int (iZ (lA xs i 1)), .int (iZ (lA xs i 2)), .int (iZ (lA xs i 3))] [.int (iZ (lA xs i 3)), .int (iZ (lA xs i 2)), .int (iZ (lA xs i 1))] 3 dL_law_816 (goodIn_l gL_law_X8_splits) rfl dd_X8_splits ⟨rfl, rfl⟩ rfl rfl rfl hcl (k_X8_splits (yl Y) hF.T8 hF.k8 lA_in lA_in lA_in e8) (fun _ => ?_)
  exact l_same hF (pc := 819) 1183 dL_law_819 (by decide) (k _ _ hq)
set_option maxHeartbeats 4000000 in
set_option maxRecDepth 20000 in
theorem l_would (hF : lFx Y L xs ρ x mm o sa) (hi : i + 7 ≤ L) (hc : c ≤ 1000000) (hcl : cells ≤ 601024 ∧ slots ≤ 7293034) (hp : pR (y7 Y) ρ x (y8 Y) mm c μ7 μ8) (k : ∀ ν7 ν8, pR (y7 Y) ρ x (y8 Y) mm (c + 1) ν7 ν8 → lNx Y cells slots 1183 (lsv Y x mm o i) [] ν7 ν8) : lNx Y cells slots 824 (lsv Y x mm o i) [] μ7 μ8 := by
  refine l_qr (fun r7 r8 => ?_)
  have hN : 100000 < 1000000 := by decide
  obtain ⟨r, ν7, ν8, e7, e8, hq⟩ := p_would (N := 1000000) hF.ly hF.mL hp hc hN (lA xs i 1) (lA xs i 2) (lA xs i 3) (lA xs i 4) (lA xs i 5) (lA xs i 6)
  refine l_aload_n hF (pc := 824) dL_law_824 1 rfl rfl ?_
  refine l_arg hF (pc := 825) hi (k := 1) (by decide) (by decide) 0 4 dL_law_825 dL_law_826 dL_law_828 dL_law_829 dL_law_830 rfl rfl ?_
  refine l_arg hF (pc := 831) hi (k := 2) (by decide) (by decide) 0 4 dL_law_831 dL_law_832 dL_law_834 dL_law_835 dL_law_836 rfl rfl ?_
  refine l_arg hF (pc := 837) hi (k := 3) (by decide) (by decide) 0 4 dL_law_837 dL_law_838 dL_law_840 dL_law_841 dL_law_842 rfl rfl ?_
  refine l_arg hF (pc := 843) hi (k := 4) (by decide) (by decide) 0 4 dL_law_843 dL_law_844 dL_law_846 dL_law_847 dL_law_848 rfl rfl ?_
  refine l_arg hF (pc := 849) hi (k := 5) (by decide) (by decide) 0 4 dL_law_849 dL_law_850 dL_law_852 dL_law_853 dL_law_854 rfl rfl ?_
  refine l_arg6 hF (pc := 855) hi (k := 6) (by decide) (by decide +kernel) 0 4 dL_law_855 dL_law_856 dL_law_858 dL_law_860 dL_law_861 rfl rfl ?_
  refine l_call7 hF (pc := 862) [.int (iZ (lA xs i 1)), .int (iZ (lA xs i 2)), .int (iZ (lA xs i 3)), .int (iZ (lA xs i 4)), .int (iZ (lA xs i 5)), .int (iZ (lA xs i 6))] [.int (iZ (lA xs i 6)), .int (iZ (lA xs i 5)), .int (iZ (lA xs i 4)), .int (iZ (lA xs i 3)), .int (iZ (lA xs i 2)), .int (iZ (lA xs i 1))] 6 dL_law_862 (goodIn_l gL_law_X7_would) rfl dd_X7_would ⟨rfl, rfl⟩ rfl rfl rfl hcl (k_X7_would (yl Y) hF.T7 hF.k7 lA_in lA_in lA_in lA_in lA_in lA_in e7) (fun _ => ?_)
  refine l_aload_n hF (pc := 865) dL_law_865 2 rfl rfl ?_
  refine l_arg hF (pc := 866) hi (k := 1) (by decide) (by decide) 0 4 dL_law_866 dL_law_867 dL_law_869 dL_law_870 dL_law_871 rfl rfl ?_
  refine l_arg hF (pc := 872) hi (k := 2) (by decide) (by decide) 0 4 dL_law_872 dL_law_873 dL_law_875 dL_law_876 dL_law_877 rfl rfl ?_
  refine l_arg hF (pc := 878) hi (k := 3) (by decide) (by decide) 0 4 dL_law_878 dL_law_879 dL_law_881 dL_law_882 dL_law_883 rfl rfl ?_
  refine l_arg hF (pc := 884) hi (k := 4) (by decide) (by decide) 0 4 dL_law_884 dL_law_885 dL_law_887 dL_law_888 dL_law_889 rfl rfl ?_
  refine l_arg hF (pc := 890) hi (k := 5) (by decide) (by decide) 0 4 dL_law_890 dL_law_891 dL_law_893 dL_law_894 dL_law_895 rfl rfl ?_
  refine l_arg6 hF (pc := 896) hi (k := 6) (by decide) (by decide +kernel) 0 4 dL_law_896 dL_law_897 dL_law_899 dL_law_901 dL_law_902 rfl rfl ?_
  refine l_call8 hF (pc := 903) [.int (iZ (lA xs i 1)), .int (iZ (lA xs i 2)), .int (iZ (lA xs i 3)), .int (iZ (lA xs i 4)), .int (iZ (lA xs i 5)), .int (iZ (lA xs i 6))] [.int (iZ (lA xs i 6)), .int (iZ (lA xs i 5)), .int (iZ (lA xs i 4)), .int (iZ (lA xs i 3)), .int (iZ (lA xs i 2)), .int (iZ (lA xs i 1))] 6 dL_law_903 (goodIn_l gL_law_X8_would) rfl dd_X8_would ⟨rfl, rfl⟩ rfl rfl rfl hcl (k_X8_would (yl Y) hF.T8 hF.k8 lA_in lA_in lA_in lA_in lA_in lA_in e8) (fun _ => ?_)
  exact l_same hF (pc := 906) 1183 dL_law_906 (by decide) (k _ _ hq)
set_option maxHeartbeats 4000000 in
set_option maxRecDepth 20000 in
theorem l_worth (hF : lFx Y L xs ρ x mm o sa) (hi : i + 7 ≤ L) (hc : c ≤ 1000000) (hcl : cells ≤ 601024 ∧ slots ≤ 7293034) (hp : pR (y7 Y) ρ x (y8 Y) mm c μ7 μ8) (k : ∀ ν7 ν8, pR (y7 Y) ρ x (y8 Y) mm (c + 1) ν7 ν8 → lNx Y cells slots 1183 (lsv Y x mm o i) [] ν7 ν8) : lNx Y cells slots 911 (lsv Y x mm o i) [] μ7 μ8 := by
  refine l_qr (fun r7 r8 => ?_)
  have hN : 100000 < 1000000 := by decide
  obtain ⟨r, ν7, ν8, e7, e8, hq⟩ := p_worth (N := 1000000) hF.ly hF.mL hp hc hN (lA xs i 1) (lA xs i 2) (lA xs i 3) (lA xs i 4) (lA xs i 5)
  refine l_aload_n hF (pc := 911) dL_law_911 1 rfl rfl ?_
  refine l_arg hF (pc := 912) hi (k := 1) (by decide) (by decide) 0 4 dL_law_912 dL_law_913 dL_law_915 dL_law_916 dL_law_917 rfl rfl ?_
  refine l_arg hF (pc := 918) hi (k := 2) (by decide) (by decide) 0 4 dL_law_918 dL_law_919 dL_law_921 dL_law_922 dL_law_923 rfl rfl ?_
  refine l_arg hF (pc := 924) hi (k := 3) (by decide) (by decide) 0 4 dL_law_924 dL_law_925 dL_law_927 dL_law_928 dL_law_929 rfl rfl ?_
  refine l_arg hF (pc := 930) hi (k := 4) (by decide) (by decide) 0 4 dL_law_930 dL_law_931 dL_law_933 dL_law_934 dL_law_935 rfl rfl ?_
  refine l_arg hF (pc := 936) hi (k := 5) (by decide) (by decide) 0 4 dL_law_936 dL_law_937 dL_law_939 dL_law_940 dL_law_941 rfl rfl ?_
  refine l_call7 hF (pc := 942) [.int (iZ (lA xs i 1)), .int (iZ (lA xs i 2)), .int (iZ (lA xs i 3)), .int (iZ (lA xs i 4)), .int (iZ (lA xs i 5))] [.int (iZ (lA xs i 5)), .int (iZ (lA xs i 4)), .int (iZ (lA xs i 3)), .int (iZ (lA xs i 2)), .int (iZ (lA xs i 1))] 5 dL_law_942 (goodIn_l gL_law_X7_worth) rfl dd_X7_worth ⟨rfl, rfl⟩ rfl rfl rfl hcl (k_X7_worth (yl Y) hF.T7 hF.k7 lA_in lA_in lA_in lA_in lA_in e7) (fun _ => ?_)
  refine l_aload_n hF (pc := 945) dL_law_945 2 rfl rfl ?_
  refine l_arg hF (pc := 946) hi (k := 1) (by decide) (by decide) 0 4 dL_law_946 dL_law_947 dL_law_949 dL_law_950 dL_law_951 rfl rfl ?_
  refine l_arg hF (pc := 952) hi (k := 2) (by decide) (by decide) 0 4 dL_law_952 dL_law_953 dL_law_955 dL_law_956 dL_law_957 rfl rfl ?_
  refine l_arg hF (pc := 958) hi (k := 3) (by decide) (by decide) 0 4 dL_law_958 dL_law_959 dL_law_961 dL_law_962 dL_law_963 rfl rfl ?_
  refine l_arg hF (pc := 964) hi (k := 4) (by decide) (by decide) 0 4 dL_law_964 dL_law_965 dL_law_967 dL_law_968 dL_law_969 rfl rfl ?_
  refine l_arg hF (pc := 970) hi (k := 5) (by decide) (by decide) 0 4 dL_law_970 dL_law_971 dL_law_973 dL_law_974 dL_law_975 rfl rfl ?_
  refine l_call8 hF (pc := 976) [.int (iZ (lA xs i 1)), .int (iZ (lA xs i 2)), .int (iZ (lA xs i 3)), .int (iZ (lA xs i 4)), .int (iZ (lA xs i 5))] [.int (iZ (lA xs i 5)), .int (iZ (lA xs i 4)), .int (iZ (lA xs i 3)), .int (iZ (lA xs i 2)), .int (iZ (lA xs i 1))] 5 dL_law_976 (goodIn_l gL_law_X8_worth) rfl dd_X8_worth ⟨rfl, rfl⟩ rfl rfl rfl hcl (k_X8_worth (yl Y) hF.T8 hF.k8 lA_in lA_in lA_in lA_in lA_in e8) (fun _ => ?_)
  refine l_lsame hF (pc := 979) dL_law_979 ?_
  exact l_zero hF (pc := 980) rfl 1183 dL_law_980 (by decide) (k _ _ hq)
set_option maxHeartbeats 4000000 in
set_option maxRecDepth 20000 in
theorem l_clears (hF : lFx Y L xs ρ x mm o sa) (hi : i + 7 ≤ L) (hc : c ≤ 1000000) (hcl : cells ≤ 601024 ∧ slots ≤ 7293034) (hp : pR (y7 Y) ρ x (y8 Y) mm c μ7 μ8) (k : ∀ ν7 ν8, pR (y7 Y) ρ x (y8 Y) mm (c + 1) ν7 ν8 → lNx Y cells slots 1183 (lsv Y x mm o i) [] ν7 ν8) : lNx Y cells slots 985 (lsv Y x mm o i) [] μ7 μ8 := by
  refine l_qr (fun r7 r8 => ?_)
  have hN : 100000 < 1000000 := by decide
  obtain ⟨r, ν7, ν8, e7, e8, hq⟩ := p_clears (N := 1000000) hF.ly hp hN (lA xs i 1)
  refine l_aload_n hF (pc := 985) dL_law_985 1 rfl rfl ?_
  refine l_arg hF (pc := 986) hi (k := 1) (by decide) (by decide) 0 4 dL_law_986 dL_law_987 dL_law_989 dL_law_990 dL_law_991 rfl rfl ?_
  refine l_call7 hF (pc := 992) [.int (iZ (lA xs i 1))] [.int (iZ (lA xs i 1))] 1 dL_law_992 (goodIn_l gL_law_X7_clears) rfl dd_X7_clears ⟨rfl, rfl⟩ rfl rfl rfl hcl (k_X7_clears (yl Y) hF.T7 hF.k7 lA_in e7) (fun _ => ?_)
  refine l_aload_n hF (pc := 995) dL_law_995 2 rfl rfl ?_
  refine l_arg hF (pc := 996) hi (k := 1) (by decide) (by decide) 0 4 dL_law_996 dL_law_997 dL_law_999 dL_law_1000 dL_law_1001 rfl rfl ?_
  refine l_call8 hF (pc := 1002) [.int (iZ (lA xs i 1))] [.int (iZ (lA xs i 1))] 1 dL_law_1002 (goodIn_l gL_law_X8_clears) rfl dd_X8_clears ⟨rfl, rfl⟩ rfl rfl rfl hcl (k_X8_clears (yl Y) hF.T8 hF.k8 lA_in e8) (fun _ => ?_)
  exact l_same hF (pc := 1005) 1183 dL_law_1005 (by decide) (k _ _ hq)
set_option maxHeartbeats 4000000 in
set_option maxRecDepth 20000 in
theorem l_trade (hF : lFx Y L xs ρ x mm o sa) (hi : i + 7 ≤ L) (hc : c ≤ 1000000) (hcl : cells ≤ 601024 ∧ slots ≤ 7293034) (hp : pR (y7 Y) ρ x (y8 Y) mm c μ7 μ8) (k : ∀ ν7 ν8, pR (y7 Y) ρ x (y8 Y) mm (c + 1) ν7 ν8 → lNx Y cells slots 1183 (lsv Y x mm o i) [] ν7 ν8) : lNx Y cells slots 1010 (lsv Y x mm o i) [] μ7 μ8 := by
  refine l_qr (fun r7 r8 => ?_)
  have hN : 100000 < 1000000 := by decide
  obtain ⟨r, ν7, ν8, e7, e8, hq⟩ := p_trade (N := 1000000) hp (lA xs i 1) (lA xs i 2)
  refine l_aload_n hF (pc := 1010) dL_law_1010 1 rfl rfl ?_
  refine l_arg hF (pc := 1011) hi (k := 1) (by decide) (by decide) 0 4 dL_law_1011 dL_law_1012 dL_law_1014 dL_law_1015 dL_law_1016 rfl rfl ?_
  refine l_arg hF (pc := 1017) hi (k := 2) (by decide) (by decide) 0 4 dL_law_1017 dL_law_1018 dL_law_1020 dL_law_1021 dL_law_1022 rfl rfl ?_
  refine l_call7 hF (pc := 1023) [.int (iZ (lA xs i 1)), .int (iZ (lA xs i 2))] [.int (iZ (lA xs i 2)), .int (iZ (lA xs i 1))] 2 dL_law_1023 (goodIn_l gL_law_X7_trade) rfl dd_X7_trade ⟨rfl, rfl⟩ rfl rfl rfl hcl (k_X7_trade (yl Y) hF.T7 hF.k7 lA_in lA_in e7) (fun _ => ?_)
  refine l_aload_n hF (pc := 1026) dL_law_1026 2 rfl rfl ?_
  refine l_arg hF (pc := 1027) hi (k := 1) (by decide) (by decide) 0 4 dL_law_1027 dL_law_1028 dL_law_1030 dL_law_1031 dL_law_1032 rfl rfl ?_
  refine l_arg hF (pc := 1033) hi (k := 2) (by decide) (by decide) 0 4 dL_law_1033 dL_law_1034 dL_law_1036 dL_law_1037 dL_law_1038 rfl rfl ?_
  refine l_call8 hF (pc := 1039) [.int (iZ (lA xs i 1)), .int (iZ (lA xs i 2))] [.int (iZ (lA xs i 2)), .int (iZ (lA xs i 1))] 2 dL_law_1039 (goodIn_l gL_law_X8_trade) rfl dd_X8_trade ⟨rfl, rfl⟩ rfl rfl rfl hcl (k_X8_trade (yl Y) hF.T8 hF.k8 lA_in lA_in e8) (fun _ => ?_)
  exact l_same hF (pc := 1042) 1183 dL_law_1042 (by decide) (k _ _ hq)
set_option maxHeartbeats 4000000 in
set_option maxRecDepth 20000 in
theorem l_count (hF : lFx Y L xs ρ x mm o sa) (hi : i + 7 ≤ L) (hc : c ≤ 1000000) (hcl : cells ≤ 601024 ∧ slots ≤ 7293034) (hp : pR (y7 Y) ρ x (y8 Y) mm c μ7 μ8) (k : ∀ ν7 ν8, pR (y7 Y) ρ x (y8 Y) mm (c + 1) ν7 ν8 → lNx Y cells slots 1183 (lsv Y x mm o i) [] ν7 ν8) : lNx Y cells slots 1158 (lsv Y x mm o i) [] μ7 μ8 := by
  refine l_qr (fun r7 r8 => ?_)
  have hN : 100000 < 1000000 := by decide
  obtain ⟨r, ν7, ν8, e7, e8, hq⟩ := p_count (N := 1000000) hp (lA xs i 1)
  refine l_aload_n hF (pc := 1158) dL_law_1158 1 rfl rfl ?_
  refine l_arg hF (pc := 1159) hi (k := 1) (by decide) (by decide) 0 4 dL_law_1159 dL_law_1160 dL_law_1162 dL_law_1163 dL_law_1164 rfl rfl ?_
  refine l_call7 hF (pc := 1165) [.int (iZ (lA xs i 1))] [.int (iZ (lA xs i 1))] 1 dL_law_1165 (goodIn_l gL_law_X7_count) rfl dd_X7_count ⟨rfl, rfl⟩ rfl rfl rfl hcl (k_X7_count (yl Y) hF.T7 hF.k7 lA_in e7) (fun _ => ?_)
  refine l_aload_n hF (pc := 1168) dL_law_1168 2 rfl rfl ?_
  refine l_arg hF (pc := 1169) hi (k := 1) (by decide) (by decide) 0 4 dL_law_1169 dL_law_1170 dL_law_1172 dL_law_1173 dL_law_1174 rfl rfl ?_
  refine l_call8 hF (pc := 1175) [.int (iZ (lA xs i 1))] [.int (iZ (lA xs i 1))] 1 dL_law_1175 (goodIn_l gL_law_X8_count) rfl dd_X8_count ⟨rfl, rfl⟩ rfl rfl rfl hcl (k_X8_count (yl Y) hF.T8 hF.k8 lA_in e8) (fun _ => ?_)
  exact l_same hF (pc := 1178) 1183 dL_law_1178 (by decide) (k _ _ hq)
end LCASES
