-- ProRataMarketModel.steps
theorem hi_X8_steps_8 : ∀ w ∈ wsX80, w ∈ wsX8_steps := fun w h => List.mem_cons_of_mem _ (List.mem_append_right _ h)
theorem fd_X8_steps_276 : qFd RX8 wsX8_steps 276 8 24 0 824 := ⟨RX8, TX8, 32, _, rfl, hi_X8_steps_8, by decide, (by decide +kernel : Cond.fieldLink RX8 276 (TX8 24).1 (TX8 24).2.1 (TX8 24).2.2.1 ∈ wsX8_steps), rfl, rfl, by decide⟩
theorem fp_X8_steps_276 : qFp RX8 wsX8_steps 276 8 24 0 824 .int := ⟨RX8, TX8, 32, _, tyX8, rfl, hi_X8_steps_8, by decide, (by decide +kernel : Cond.fieldLink RX8 276 (TX8 24).1 (TX8 24).2.1 (TX8 24).2.2.1 ∈ wsX8_steps), rfl, rfl, by decide, tyX8_ok, nmX8, rfl, by decide +kernel⟩
theorem fp_X8_steps_285 : qFp RX8 wsX8_steps 285 8 27 0 827 .int := ⟨RX8, TX8, 32, _, tyX8, rfl, hi_X8_steps_8, by decide, (by decide +kernel : Cond.fieldLink RX8 285 (TX8 27).1 (TX8 27).2.1 (TX8 27).2.2.1 ∈ wsX8_steps), rfl, rfl, by decide, tyX8_ok, nmX8, rfl, by decide +kernel⟩
theorem fd_X8_steps_273 : qFd RX8 wsX8_steps 273 8 25 0 825 := ⟨RX8, TX8, 32, _, rfl, hi_X8_steps_8, by decide, (by decide +kernel : Cond.fieldLink RX8 273 (TX8 25).1 (TX8 25).2.1 (TX8 25).2.2.1 ∈ wsX8_steps), rfl, rfl, by decide⟩
theorem fp_X8_steps_273 : qFp RX8 wsX8_steps 273 8 25 0 825 .int := ⟨RX8, TX8, 32, _, tyX8, rfl, hi_X8_steps_8, by decide, (by decide +kernel : Cond.fieldLink RX8 273 (TX8 25).1 (TX8 25).2.1 (TX8 25).2.2.1 ∈ wsX8_steps), rfl, rfl, by decide, tyX8_ok, nmX8, rfl, by decide +kernel⟩
theorem fp_X8_steps_282 : qFp RX8 wsX8_steps 282 8 26 0 826 .int := ⟨RX8, TX8, 32, _, tyX8, rfl, hi_X8_steps_8, by decide, (by decide +kernel : Cond.fieldLink RX8 282 (TX8 26).1 (TX8 26).2.1 (TX8 26).2.2.1 ∈ wsX8_steps), rfl, rfl, by decide, tyX8_ok, nmX8, rfl, by decide +kernel⟩
theorem fd_X8_steps_285 : qFd RX8 wsX8_steps 285 8 27 0 827 := ⟨RX8, TX8, 32, _, rfl, hi_X8_steps_8, by decide, (by decide +kernel : Cond.fieldLink RX8 285 (TX8 27).1 (TX8 27).2.1 (TX8 27).2.2.1 ∈ wsX8_steps), rfl, rfl, by decide⟩
set_option maxHeartbeats 4000000 in
set_option maxRecDepth 20000 in
theorem w_X8_steps_34 {X : qB} {N : Nat} (hX : qOk X cX8_steps RX8 2 none wsX8_steps 1 25) {r : qM} (hE : xr X = none ∧ (True → xΦ X) ∧ xμ X = r) {k8 : (Nat → qM → Option (qM))} (hk8 : ∀ (x0 : Nat) (m0 : qM), gK (xG X) x0 = 9 → qR (xG X) m0 → k8 x0 m0 = some r → qN X 2 8 [(0, .ref x0)] [] m0)
    {x0 : Nat} (k_x0 : gK (xG X) x0 = 9) {m0 : qM} (hR_m0 : qR (xG X) m0)
    (h : f_X8_steps_34 N (xG X) k8 x0 m0 = some r) : qN X 2 34 [(0, .ref x0)] [] m0 := by
  have hT := hX.T
  unfold f_X8_steps_34 at h
  refine qn_aload_n hX (pc := 34) dX8_steps_34 0 rfl rfl ?_
  refine qn_dup hX (pc := 35) dX8_steps_35 rfl ?_
  refine qn_getI hX (pc := 36) fd_X8_steps_276 dX8_steps_36 k_x0 ?_
  refine qn_iconst hX (pc := 39) dX8_steps_39 ?_
  obtain ⟨v1, e_v1, r_v1, h⟩ := ckI_e h
  refine qn_iadd hX (pc := 40) dX8_steps_40 e_v1 ?_
  obtain ⟨m2, e_m2, h⟩ := kp_e h
  refine qn_putI hX (pc := 41) fp_X8_steps_276 dX8_steps_41 k_x0 hR_m0 r_v1 e_m2 (fun hR_m2 => ?_) 
  refine qn_goto hX (pc := 44) 8 dX8_steps_44 (by decide) ?_
  refine qn_sub (ls' := [(0, .ref x0)]) [0] rfl ?_
  exact hk8 x0 m2 k_x0 hR_m2 h
set_option maxHeartbeats 4000000 in
set_option maxRecDepth 20000 in
theorem w_X8_steps_259 {X : qB} {N : Nat} (hX : qOk X cX8_steps RX8 2 none wsX8_steps 1 25) {r : qM} (hE : xr X = none ∧ (True → xΦ X) ∧ xμ X = r) {k197 : (Nat → qM → Option (qM))} (hk197 : ∀ (x0 : Nat) (m0 : qM), gK (xG X) x0 = 9 → qR (xG X) m0 → k197 x0 m0 = some r → qN X 2 197 [(0, .ref x0)] [] m0)
    {x0 : Nat} {s0 : Nat} {s1 : Int} (k_x0 : gK (xG X) x0 = 9) (k_s0 : gK (xG X) s0 = 9) (r_s1 : in32 s1) {m0 : qM} (hR_m0 : qR (xG X) m0)
    (h : f_X8_steps_259 N (xG X) k197 x0 s0 s1 m0 = some r) : qN X 2 259 [(0, .ref x0)] [.int (iZ s1), .ref s0] m0 := by
  have hT := hX.T
  unfold f_X8_steps_259 at h
  obtain ⟨m1, e_m1, h⟩ := kp_e h
  refine qn_putI hX (pc := 259) fp_X8_steps_285 dX8_steps_259 k_s0 hR_m0 r_s1 e_m1 (fun hR_m1 => ?_) 
  refine qn_aload_n hX (pc := 262) dX8_steps_262 0 rfl rfl ?_
  refine qn_dup hX (pc := 263) dX8_steps_263 rfl ?_
  refine qn_getI hX (pc := 264) fd_X8_steps_273 dX8_steps_264 k_x0 ?_
  refine qn_iconst hX (pc := 267) dX8_steps_267 ?_
  obtain ⟨v2, e_v2, r_v2, h⟩ := ckI_e h
  refine qn_iadd hX (pc := 268) dX8_steps_268 e_v2 ?_
  obtain ⟨m3, e_m3, h⟩ := kp_e h
  refine qn_putI hX (pc := 269) fp_X8_steps_273 dX8_steps_269 k_x0 hR_m1 r_v2 e_m3 (fun hR_m3 => ?_) 
  refine qn_goto hX (pc := 272) 197 dX8_steps_272 (by decide) ?_
  refine qn_sub (ls' := [(0, .ref x0)]) [0] rfl ?_
  exact hk197 x0 m3 k_x0 hR_m3 h
set_option maxHeartbeats 4000000 in
set_option maxRecDepth 20000 in
theorem w_X8_steps_197 {X : qB} {N : Nat} (hX : qOk X cX8_steps RX8 2 none wsX8_steps 1 25) {r : qM} (hE : xr X = none ∧ (True → xΦ X) ∧ xμ X = r) {k197 : (Nat → qM → Option (qM))} (hk197 : ∀ (x0 : Nat) (m0 : qM), gK (xG X) x0 = 9 → qR (xG X) m0 → k197 x0 m0 = some r → qN X 2 197 [(0, .ref x0)] [] m0)
    {x0 : Nat} (k_x0 : gK (xG X) x0 = 9) {m0 : qM} (hR_m0 : qR (xG X) m0)
    (h : f_X8_steps_197 N (xG X) k197 x0 m0 = some r) : qN X 2 197 [(0, .ref x0)] [] m0 := by
  have hT := hX.T
  unfold f_X8_steps_197 at h
  refine qn_aload_n hX (pc := 197) dX8_steps_197 0 rfl rfl ?_
  refine qn_aload_n hX (pc := 198) dX8_steps_198 0 rfl rfl ?_
  refine qn_getI hX (pc := 199) fd_X8_steps_273 dX8_steps_199 k_x0 ?_
  obtain ⟨v2, m1, e_m1, h⟩ := kb2_e h
  refine qn_callVi hX (pc := 202) [.int (iZ (gI m0 825 x0))] [.int (iZ (gI m0 825 x0))] 1 dX8_steps_202 gX8_steps_X8_see rfl dd_X8_see ⟨rfl, rfl⟩ rfl rfl (by decide) k_x0 rfl rfl hR_m0 (k_X8_see (xl X) hT k_x0 (hR_m0.i 825 _ rfl) e_m1) (fun r_v2 hR_m1 => ?_)
  refine qn_i2l hX (pc := 205) r_v2 dX8_steps_205 ?_
  refine qn_ldc2 hX (pc := 206) 48 dX8_steps_206 (by decide +kernel : Cond.constantLong RX8 292 (48) ∈ wsX8_steps) (by decide) ?_
  refine qn_ldc2 hX (pc := 209) 57 dX8_steps_209 (by decide +kernel : Cond.constantLong RX8 294 (57) ∈ wsX8_steps) (by decide) ?_
  obtain ⟨v4, m3, e_m3, h⟩ := kb2_e h
  refine qn_callSi hX (pc := 212) [.long (lZ v2), .long (lZ 48), .long (lZ 57)] [.long (lZ 57), .long (lZ 48), .long (lZ v2)] 3 dX8_steps_212 gX8_steps_X8_within rfl dd_X8_within ⟨rfl, rfl⟩ rfl rfl rfl hR_m1 (k_X8_within (xl X) hT (in32.l r_v2) (by decide) (by decide) e_m3) (fun r_v4 hR_m3 => ?_)
  refine qn_if_eq hX (pc := 215) r_v4.i 275 dX8_steps_215 (by decide) (fun c5 => ?_) (fun c5 => ?_)
  · have h := ite_t h c5
    refine qn_aload_n hX (pc := 275) dX8_steps_275 0 rfl rfl ?_
    refine qn_aload_n hX (pc := 276) dX8_steps_276 0 rfl rfl ?_
    refine qn_getI hX (pc := 277) fd_X8_steps_273 dX8_steps_277 k_x0 ?_
    refine qn_aload_n hX (pc := 280) dX8_steps_280 0 rfl rfl ?_
    refine qn_getI hX (pc := 281) fd_X8_steps_276 dX8_steps_281 k_x0 ?_
    obtain ⟨v6, e_v6, r_v6, h⟩ := ckI_e h
    refine qn_isub hX (pc := 284) dX8_steps_284 e_v6 ?_
    refine qn_bipush hX (pc := 285) dX8_steps_285 (by decide) ?_
    refine qn_icmp_ge hX (pc := 287) r_v6 (by decide) 294 dX8_steps_287 (by decide) (fun c7 => ?_) (fun c7 => ?_)
    · have h := ite_f h c7
      refine qn_iconst hX (pc := 294) dX8_steps_294 ?_
      obtain ⟨m8, e_m8, h⟩ := kp_e h
      refine qn_putI hX (pc := 295) fp_X8_steps_282 dX8_steps_295 k_x0 hR_m3 (show in32 4 by decide) e_m8 (fun hR_m8 => ?_) 
      exact qn_vret hX (pc := 298) dX8_steps_298 hE hR_m8 (Option.some.inj h)
    · have h := ite_t h c7
      refine qn_iconst hX (pc := 290) dX8_steps_290 ?_
      refine qn_goto hX (pc := 291) 295 dX8_steps_291 (by decide) ?_
      obtain ⟨m9, e_m9, h⟩ := kp_e h
      refine qn_putI hX (pc := 295) fp_X8_steps_282 dX8_steps_295 k_x0 hR_m3 (show in32 2 by decide) e_m9 (fun hR_m9 => ?_) 
      exact qn_vret hX (pc := 298) dX8_steps_298 hE hR_m9 (Option.some.inj h)
  · have h := ite_f h c5
    refine qn_aload_n hX (pc := 218) dX8_steps_218 0 rfl rfl ?_
    refine qn_aload_n hX (pc := 219) dX8_steps_219 0 rfl rfl ?_
    refine qn_getI hX (pc := 220) fd_X8_steps_273 dX8_steps_220 k_x0 ?_
    refine qn_aload_n hX (pc := 223) dX8_steps_223 0 rfl rfl ?_
    refine qn_getI hX (pc := 224) fd_X8_steps_276 dX8_steps_224 k_x0 ?_
    obtain ⟨v10, e_v10, r_v10, h⟩ := ckI_e h
    refine qn_isub hX (pc := 227) dX8_steps_227 e_v10 ?_
    refine qn_bipush hX (pc := 228) dX8_steps_228 (by decide) ?_
    refine qn_icmp_ge hX (pc := 230) r_v10 (by decide) 255 dX8_steps_230 (by decide) (fun c11 => ?_) (fun c11 => ?_)
    · have h := ite_f h c11
      refine qn_aload_n hX (pc := 255) dX8_steps_255 0 rfl rfl ?_
      refine qn_getI hX (pc := 256) fd_X8_steps_285 dX8_steps_256 k_x0 ?_
      refine qn_sub (ls' := [(0, .ref x0)]) [0] rfl ?_
      exact w_X8_steps_259 hX hE hk197 k_x0 k_x0 (hR_m3.i 827 _ rfl) hR_m3 h
    · have h := ite_t h c11
      refine qn_bipush hX (pc := 233) dX8_steps_233 (by decide) ?_
      refine qn_aload_n hX (pc := 235) dX8_steps_235 0 rfl rfl ?_
      refine qn_getI hX (pc := 236) fd_X8_steps_285 dX8_steps_236 k_x0 ?_
      obtain ⟨v12, e_v12, r_v12, h⟩ := ckI_e h
      refine qn_imul hX (pc := 239) dX8_steps_239 e_v12 ?_
      refine qn_aload_n hX (pc := 240) dX8_steps_240 0 rfl rfl ?_
      refine qn_aload_n hX (pc := 241) dX8_steps_241 0 rfl rfl ?_
      refine qn_getI hX (pc := 242) fd_X8_steps_273 dX8_steps_242 k_x0 ?_
      obtain ⟨v14, m13, e_m13, h⟩ := kb2_e h
      refine qn_callVi hX (pc := 245) [.int (iZ (gI m3 825 x0))] [.int (iZ (gI m3 825 x0))] 1 dX8_steps_245 gX8_steps_X8_see rfl dd_X8_see ⟨rfl, rfl⟩ rfl rfl (by decide) k_x0 rfl rfl hR_m3 (k_X8_see (xl X) hT k_x0 (hR_m3.i 825 _ rfl) e_m13) (fun r_v14 hR_m13 => ?_)
      obtain ⟨v15, e_v15, r_v15, h⟩ := ckI_e h
      refine qn_iadd hX (pc := 248) dX8_steps_248 e_v15 ?_
      refine qn_bipush hX (pc := 249) dX8_steps_249 (by decide) ?_
      obtain ⟨v16, e_v16, r_v16, h⟩ := ckI_e h
      refine qn_isub hX (pc := 251) dX8_steps_251 e_v16 ?_
      refine qn_goto hX (pc := 252) 259 dX8_steps_252 (by decide) ?_
      refine qn_sub (ls' := [(0, .ref x0)]) [0] rfl ?_
      exact w_X8_steps_259 hX hE hk197 k_x0 k_x0 r_v16 hR_m13 h
set_option maxHeartbeats 4000000 in
set_option maxRecDepth 20000 in
theorem w_X8_steps_L197 {X : qB} {N : Nat} (hX : qOk X cX8_steps RX8 2 none wsX8_steps 1 25) {r : qM} (hE : xr X = none ∧ (True → xΦ X) ∧ xμ X = r) 
    {x0 : Nat} (k_x0 : gK (xG X) x0 = 9) {m0 : qM} (hR_m0 : qR (xG X) m0)
    (h : f_X8_steps_L197 N (xG X)  x0 m0 = some r) : qN X 2 197 [(0, .ref x0)] [] m0 := by
  unfold f_X8_steps_L197 at h
  exact qLoop_w (σ := Nat × qM) (P := fun p => gK (xG X) p.1 = 9 ∧ qR (xG X) p.2) (Q := fun p => qN X 2 197 [(0, .ref p.1)] [] p.2) (fun k hrec p hp hh => w_X8_steps_197 hX hE (fun x0 m0 q0 hRm hh => hrec (x0, m0) ⟨q0, hRm⟩ hh) hp.1 hp.2 hh) N (x0, m0) ⟨k_x0, hR_m0⟩ h
set_option maxHeartbeats 4000000 in
set_option maxRecDepth 20000 in
theorem w_X8_steps_133 {X : qB} {N : Nat} (hX : qOk X cX8_steps RX8 2 none wsX8_steps 1 25) {r : qM} (hE : xr X = none ∧ (True → xΦ X) ∧ xμ X = r) {k133 : (Nat → qM → Option (qM))} (hk133 : ∀ (x0 : Nat) (m0 : qM), gK (xG X) x0 = 9 → qR (xG X) m0 → k133 x0 m0 = some r → qN X 2 133 [(0, .ref x0)] [] m0)
    {x0 : Nat} (k_x0 : gK (xG X) x0 = 9) {m0 : qM} (hR_m0 : qR (xG X) m0)
    (h : f_X8_steps_133 N (xG X) k133 x0 m0 = some r) : qN X 2 133 [(0, .ref x0)] [] m0 := by
  have hT := hX.T
  unfold f_X8_steps_133 at h
  refine qn_aload_n hX (pc := 133) dX8_steps_133 0 rfl rfl ?_
  refine qn_aload_n hX (pc := 134) dX8_steps_134 0 rfl rfl ?_
  refine qn_getI hX (pc := 135) fd_X8_steps_273 dX8_steps_135 k_x0 ?_
  obtain ⟨v2, m1, e_m1, h⟩ := kb2_e h
  refine qn_callVi hX (pc := 138) [.int (iZ (gI m0 825 x0))] [.int (iZ (gI m0 825 x0))] 1 dX8_steps_138 gX8_steps_X8_see rfl dd_X8_see ⟨rfl, rfl⟩ rfl rfl (by decide) k_x0 rfl rfl hR_m0 (k_X8_see (xl X) hT k_x0 (hR_m0.i 825 _ rfl) e_m1) (fun r_v2 hR_m1 => ?_)
  refine qn_i2l hX (pc := 141) r_v2 dX8_steps_141 ?_
  refine qn_ldc2 hX (pc := 142) 97 dX8_steps_142 (by decide +kernel : Cond.constantLong RX8 288 (97) ∈ wsX8_steps) (by decide) ?_
  refine qn_ldc2 hX (pc := 145) 122 dX8_steps_145 (by decide +kernel : Cond.constantLong RX8 290 (122) ∈ wsX8_steps) (by decide) ?_
  obtain ⟨v4, m3, e_m3, h⟩ := kb2_e h
  refine qn_callSi hX (pc := 148) [.long (lZ v2), .long (lZ 97), .long (lZ 122)] [.long (lZ 122), .long (lZ 97), .long (lZ v2)] 3 dX8_steps_148 gX8_steps_X8_within rfl dd_X8_within ⟨rfl, rfl⟩ rfl rfl rfl hR_m1 (k_X8_within (xl X) hT (in32.l r_v2) (by decide) (by decide) e_m3) (fun r_v4 hR_m3 => ?_)
  refine qn_if_eq hX (pc := 151) r_v4.i 167 dX8_steps_151 (by decide) (fun c5 => ?_) (fun c5 => ?_)
  · have h := ite_t h c5
    refine qn_aload_n hX (pc := 167) dX8_steps_167 0 rfl rfl ?_
    refine qn_iconst hX (pc := 168) dX8_steps_168 ?_
    obtain ⟨m6, e_m6, h⟩ := kp_e h
    refine qn_putI hX (pc := 169) fp_X8_steps_282 dX8_steps_169 k_x0 hR_m3 (show in32 1 by decide) e_m6 (fun hR_m6 => ?_) 
    refine qn_goto hX (pc := 172) 298 dX8_steps_172 (by decide) ?_
    exact qn_vret hX (pc := 298) dX8_steps_298 hE hR_m6 (Option.some.inj h)
  · have h := ite_f h c5
    refine qn_aload_n hX (pc := 154) dX8_steps_154 0 rfl rfl ?_
    refine qn_dup hX (pc := 155) dX8_steps_155 rfl ?_
    refine qn_getI hX (pc := 156) fd_X8_steps_273 dX8_steps_156 k_x0 ?_
    refine qn_iconst hX (pc := 159) dX8_steps_159 ?_
    obtain ⟨v7, e_v7, r_v7, h⟩ := ckI_e h
    refine qn_iadd hX (pc := 160) dX8_steps_160 e_v7 ?_
    obtain ⟨m8, e_m8, h⟩ := kp_e h
    refine qn_putI hX (pc := 161) fp_X8_steps_273 dX8_steps_161 k_x0 hR_m3 r_v7 e_m8 (fun hR_m8 => ?_) 
    refine qn_goto hX (pc := 164) 133 dX8_steps_164 (by decide) ?_
    refine qn_sub (ls' := [(0, .ref x0)]) [0] rfl ?_
    exact hk133 x0 m8 k_x0 hR_m8 h
set_option maxHeartbeats 4000000 in
set_option maxRecDepth 20000 in
theorem w_X8_steps_L133 {X : qB} {N : Nat} (hX : qOk X cX8_steps RX8 2 none wsX8_steps 1 25) {r : qM} (hE : xr X = none ∧ (True → xΦ X) ∧ xμ X = r) 
    {x0 : Nat} (k_x0 : gK (xG X) x0 = 9) {m0 : qM} (hR_m0 : qR (xG X) m0)
    (h : f_X8_steps_L133 N (xG X)  x0 m0 = some r) : qN X 2 133 [(0, .ref x0)] [] m0 := by
  unfold f_X8_steps_L133 at h
  exact qLoop_w (σ := Nat × qM) (P := fun p => gK (xG X) p.1 = 9 ∧ qR (xG X) p.2) (Q := fun p => qN X 2 133 [(0, .ref p.1)] [] p.2) (fun k hrec p hp hh => w_X8_steps_133 hX hE (fun x0 m0 q0 hRm hh => hrec (x0, m0) ⟨q0, hRm⟩ hh) hp.1 hp.2 hh) N (x0, m0) ⟨k_x0, hR_m0⟩ h
set_option maxHeartbeats 4000000 in
set_option maxRecDepth 20000 in
theorem w_X8_steps_8 {X : qB} {N : Nat} (hX : qOk X cX8_steps RX8 2 none wsX8_steps 1 25) {r : qM} (hE : xr X = none ∧ (True → xΦ X) ∧ xμ X = r) {k8 : (Nat → qM → Option (qM))} (hk8 : ∀ (x0 : Nat) (m0 : qM), gK (xG X) x0 = 9 → qR (xG X) m0 → k8 x0 m0 = some r → qN X 2 8 [(0, .ref x0)] [] m0)
    {x0 : Nat} (k_x0 : gK (xG X) x0 = 9) {m0 : qM} (hR_m0 : qR (xG X) m0)
    (h : f_X8_steps_8 N (xG X) k8 x0 m0 = some r) : qN X 2 8 [(0, .ref x0)] [] m0 := by
  have hT := hX.T
  unfold f_X8_steps_8 at h
  refine qn_aload_n hX (pc := 8) dX8_steps_8 0 rfl rfl ?_
  refine qn_aload_n hX (pc := 9) dX8_steps_9 0 rfl rfl ?_
  refine qn_getI hX (pc := 10) fd_X8_steps_276 dX8_steps_10 k_x0 ?_
  obtain ⟨v2, m1, e_m1, h⟩ := kb2_e h
  refine qn_callVi hX (pc := 13) [.int (iZ (gI m0 824 x0))] [.int (iZ (gI m0 824 x0))] 1 dX8_steps_13 gX8_steps_X8_see rfl dd_X8_see ⟨rfl, rfl⟩ rfl rfl (by decide) k_x0 rfl rfl hR_m0 (k_X8_see (xl X) hT k_x0 (hR_m0.i 824 _ rfl) e_m1) (fun r_v2 hR_m1 => ?_)
  refine qn_bipush hX (pc := 16) dX8_steps_16 (by decide) ?_
  refine qn_icmp_eq hX (pc := 18) r_v2 (by decide) 34 dX8_steps_18 (by decide) (fun c3 => ?_) (fun c3 => ?_)
  · have h := ite_t h c3
    refine qn_sub (ls' := [(0, .ref x0)]) [0] rfl ?_
    exact w_X8_steps_34 hX hE hk8 k_x0 hR_m1 h
  · have h := ite_f h c3
    refine qn_aload_n hX (pc := 21) dX8_steps_21 0 rfl rfl ?_
    refine qn_aload_n hX (pc := 22) dX8_steps_22 0 rfl rfl ?_
    refine qn_getI hX (pc := 23) fd_X8_steps_276 dX8_steps_23 k_x0 ?_
    obtain ⟨v5, m4, e_m4, h⟩ := kb2_e h
    refine qn_callVi hX (pc := 26) [.int (iZ (gI m1 824 x0))] [.int (iZ (gI m1 824 x0))] 1 dX8_steps_26 gX8_steps_X8_see rfl dd_X8_see ⟨rfl, rfl⟩ rfl rfl (by decide) k_x0 rfl rfl hR_m1 (k_X8_see (xl X) hT k_x0 (hR_m1.i 824 _ rfl) e_m4) (fun r_v5 hR_m4 => ?_)
    refine qn_bipush hX (pc := 29) dX8_steps_29 (by decide) ?_
    refine qn_icmp_ne hX (pc := 31) r_v5 (by decide) 47 dX8_steps_31 (by decide) (fun c6 => ?_) (fun c6 => ?_)
    · have h := ite_f h c6
      refine qn_aload_n hX (pc := 47) dX8_steps_47 0 rfl rfl ?_
      refine qn_aload_n hX (pc := 48) dX8_steps_48 0 rfl rfl ?_
      refine qn_getI hX (pc := 49) fd_X8_steps_276 dX8_steps_49 k_x0 ?_
      obtain ⟨v8, m7, e_m7, h⟩ := kb2_e h
      refine qn_callVi hX (pc := 52) [.int (iZ (gI m4 824 x0))] [.int (iZ (gI m4 824 x0))] 1 dX8_steps_52 gX8_steps_X8_see rfl dd_X8_see ⟨rfl, rfl⟩ rfl rfl (by decide) k_x0 rfl rfl hR_m4 (k_X8_see (xl X) hT k_x0 (hR_m4.i 824 _ rfl) e_m7) (fun r_v8 hR_m7 => ?_)
      refine qn_istore_n hX (pc := 55) (ls' := [(1, .int (iZ v8)), (0, .ref x0)]) dX8_steps_55 rfl rfl rfl ?_
      refine qn_aload_n hX (pc := 56) dX8_steps_56 1 rfl rfl ?_
      refine qn_aload_n hX (pc := 57) dX8_steps_57 1 rfl rfl ?_
      refine qn_getI hX (pc := 58) fd_X8_steps_276 dX8_steps_58 k_x0 ?_
      refine qn_iconst hX (pc := 61) dX8_steps_61 ?_
      obtain ⟨v9, e_v9, r_v9, h⟩ := ckI_e h
      refine qn_iadd hX (pc := 62) dX8_steps_62 e_v9 ?_
      obtain ⟨m10, e_m10, h⟩ := kp_e h
      refine qn_putI hX (pc := 63) fp_X8_steps_273 dX8_steps_63 k_x0 hR_m7 r_v9 e_m10 (fun hR_m10 => ?_) 
      refine qn_aload_n hX (pc := 66) dX8_steps_66 1 rfl rfl ?_
      refine qn_iconst hX (pc := 67) dX8_steps_67 ?_
      obtain ⟨m11, e_m11, h⟩ := kp_e h
      refine qn_putI hX (pc := 68) fp_X8_steps_282 dX8_steps_68 k_x0 hR_m10 (show in32 4 by decide) e_m11 (fun hR_m11 => ?_) 
      refine qn_aload_n hX (pc := 71) dX8_steps_71 1 rfl rfl ?_
      refine qn_iconst hX (pc := 72) dX8_steps_72 ?_
      obtain ⟨m12, e_m12, h⟩ := kp_e h
      refine qn_putI hX (pc := 73) fp_X8_steps_285 dX8_steps_73 k_x0 hR_m11 (show in32 0 by decide) e_m12 (fun hR_m12 => ?_) 
      refine qn_iload_n hX (pc := 76) dX8_steps_76 0 rfl rfl ?_
      refine qn_iconst hX (pc := 77) dX8_steps_77 ?_
      refine qn_icmp_ne hX (pc := 78) r_v8 (by decide) 97 dX8_steps_78 (by decide) (fun c13 => ?_) (fun c13 => ?_)
      · have h := ite_f h c13
        refine qn_iload_n hX (pc := 97) dX8_steps_97 0 rfl rfl ?_
        refine qn_bipush hX (pc := 98) dX8_steps_98 (by decide) ?_
        refine qn_icmp_ne hX (pc := 100) r_v8 (by decide) 111 dX8_steps_100 (by decide) (fun c14 => ?_) (fun c14 => ?_)
        · have h := ite_f h c14
          refine qn_iload_n hX (pc := 111) dX8_steps_111 0 rfl rfl ?_
          refine qn_i2l hX (pc := 112) r_v8 dX8_steps_112 ?_
          refine qn_ldc2 hX (pc := 113) 97 dX8_steps_113 (by decide +kernel : Cond.constantLong RX8 288 (97) ∈ wsX8_steps) (by decide) ?_
          refine qn_ldc2 hX (pc := 116) 122 dX8_steps_116 (by decide +kernel : Cond.constantLong RX8 290 (122) ∈ wsX8_steps) (by decide) ?_
          obtain ⟨v16, m15, e_m15, h⟩ := kb2_e h
          refine qn_callSi hX (pc := 119) [.long (lZ v8), .long (lZ 97), .long (lZ 122)] [.long (lZ 122), .long (lZ 97), .long (lZ v8)] 3 dX8_steps_119 gX8_steps_X8_within rfl dd_X8_within ⟨rfl, rfl⟩ rfl rfl rfl hR_m12 (k_X8_within (xl X) hT (in32.l r_v8) (by decide) (by decide) e_m15) (fun r_v16 hR_m15 => ?_)
          refine qn_if_eq hX (pc := 122) r_v16.i 175 dX8_steps_122 (by decide) (fun c17 => ?_) (fun c17 => ?_)
          · have h := ite_t h c17
            refine qn_iload_n hX (pc := 175) dX8_steps_175 0 rfl rfl ?_
            refine qn_i2l hX (pc := 176) r_v8 dX8_steps_176 ?_
            refine qn_ldc2 hX (pc := 177) 48 dX8_steps_177 (by decide +kernel : Cond.constantLong RX8 292 (48) ∈ wsX8_steps) (by decide) ?_
            refine qn_ldc2 hX (pc := 180) 57 dX8_steps_180 (by decide +kernel : Cond.constantLong RX8 294 (57) ∈ wsX8_steps) (by decide) ?_
            obtain ⟨v19, m18, e_m18, h⟩ := kb2_e h
            refine qn_callSi hX (pc := 183) [.long (lZ v8), .long (lZ 48), .long (lZ 57)] [.long (lZ 57), .long (lZ 48), .long (lZ v8)] 3 dX8_steps_183 gX8_steps_X8_within rfl dd_X8_within ⟨rfl, rfl⟩ rfl rfl rfl hR_m15 (k_X8_within (xl X) hT (in32.l r_v8) (by decide) (by decide) e_m18) (fun r_v19 hR_m18 => ?_)
            refine qn_if_eq hX (pc := 186) r_v19.i 298 dX8_steps_186 (by decide) (fun c20 => ?_) (fun c20 => ?_)
            · have h := ite_t h c20
              exact qn_vret hX (pc := 298) dX8_steps_298 hE hR_m18 (Option.some.inj h)
            · have h := ite_f h c20
              refine qn_aload_n hX (pc := 189) dX8_steps_189 1 rfl rfl ?_
              refine qn_aload_n hX (pc := 190) dX8_steps_190 1 rfl rfl ?_
              refine qn_getI hX (pc := 191) fd_X8_steps_276 dX8_steps_191 k_x0 ?_
              obtain ⟨m21, e_m21, h⟩ := kp_e h
              refine qn_putI hX (pc := 194) fp_X8_steps_273 dX8_steps_194 k_x0 hR_m18 (hR_m18.i 824 _ rfl) e_m21 (fun hR_m21 => ?_) 
              refine qn_sub (ls' := [(0, .ref x0)]) [1] rfl ?_
              exact w_X8_steps_L197 hX hE  k_x0 hR_m21 h
          · have h := ite_f h c17
            refine qn_aload_n hX (pc := 125) dX8_steps_125 1 rfl rfl ?_
            refine qn_aload_n hX (pc := 126) dX8_steps_126 1 rfl rfl ?_
            refine qn_getI hX (pc := 127) fd_X8_steps_276 dX8_steps_127 k_x0 ?_
            obtain ⟨m22, e_m22, h⟩ := kp_e h
            refine qn_putI hX (pc := 130) fp_X8_steps_273 dX8_steps_130 k_x0 hR_m15 (hR_m15.i 824 _ rfl) e_m22 (fun hR_m22 => ?_) 
            refine qn_sub (ls' := [(0, .ref x0)]) [1] rfl ?_
            exact w_X8_steps_L133 hX hE  k_x0 hR_m22 h
        · have h := ite_t h c14
          refine qn_aload_n hX (pc := 103) dX8_steps_103 1 rfl rfl ?_
          refine qn_iconst hX (pc := 104) dX8_steps_104 ?_
          obtain ⟨m23, e_m23, h⟩ := kp_e h
          refine qn_putI hX (pc := 105) fp_X8_steps_282 dX8_steps_105 k_x0 hR_m12 (show in32 3 by decide) e_m23 (fun hR_m23 => ?_) 
          refine qn_goto hX (pc := 108) 298 dX8_steps_108 (by decide) ?_
          exact qn_vret hX (pc := 298) dX8_steps_298 hE hR_m23 (Option.some.inj h)
      · have h := ite_t h c13
        refine qn_aload_n hX (pc := 81) dX8_steps_81 1 rfl rfl ?_
        refine qn_aload_n hX (pc := 82) dX8_steps_82 1 rfl rfl ?_
        refine qn_getI hX (pc := 83) fd_X8_steps_276 dX8_steps_83 k_x0 ?_
        obtain ⟨m24, e_m24, h⟩ := kp_e h
        refine qn_putI hX (pc := 86) fp_X8_steps_273 dX8_steps_86 k_x0 hR_m12 (hR_m12.i 824 _ rfl) e_m24 (fun hR_m24 => ?_) 
        refine qn_aload_n hX (pc := 89) dX8_steps_89 1 rfl rfl ?_
        refine qn_iconst hX (pc := 90) dX8_steps_90 ?_
        obtain ⟨m25, e_m25, h⟩ := kp_e h
        refine qn_putI hX (pc := 91) fp_X8_steps_282 dX8_steps_91 k_x0 hR_m24 (show in32 0 by decide) e_m25 (fun hR_m25 => ?_) 
        refine qn_goto hX (pc := 94) 298 dX8_steps_94 (by decide) ?_
        exact qn_vret hX (pc := 298) dX8_steps_298 hE hR_m25 (Option.some.inj h)
    · have h := ite_t h c6
      refine qn_sub (ls' := [(0, .ref x0)]) [0] rfl ?_
      exact w_X8_steps_34 hX hE hk8 k_x0 hR_m4 h
set_option maxHeartbeats 4000000 in
set_option maxRecDepth 20000 in
theorem w_X8_steps_L8 {X : qB} {N : Nat} (hX : qOk X cX8_steps RX8 2 none wsX8_steps 1 25) {r : qM} (hE : xr X = none ∧ (True → xΦ X) ∧ xμ X = r) 
    {x0 : Nat} (k_x0 : gK (xG X) x0 = 9) {m0 : qM} (hR_m0 : qR (xG X) m0)
    (h : f_X8_steps_L8 N (xG X)  x0 m0 = some r) : qN X 2 8 [(0, .ref x0)] [] m0 := by
  unfold f_X8_steps_L8 at h
  exact qLoop_w (σ := Nat × qM) (P := fun p => gK (xG X) p.1 = 9 ∧ qR (xG X) p.2) (Q := fun p => qN X 2 8 [(0, .ref p.1)] [] p.2) (fun k hrec p hp hh => w_X8_steps_8 hX hE (fun x0 m0 q0 hRm hh => hrec (x0, m0) ⟨q0, hRm⟩ hh) hp.1 hp.2 hh) N (x0, m0) ⟨k_x0, hR_m0⟩ h
set_option maxHeartbeats 4000000 in
set_option maxRecDepth 20000 in
theorem w_X8_steps {X : qB} {N : Nat} (hX : qOk X cX8_steps RX8 2 none wsX8_steps 1 25) {r : qM} (hE : xr X = none ∧ (True → xΦ X) ∧ xμ X = r) 
    {x0 : Nat} (k_x0 : gK (xG X) x0 = 9) {m0 : qM} (hR_m0 : qR (xG X) m0)
    (h : f_X8_steps N (xG X)  x0 m0 = some r) : qN X 2 0 [(0, .ref x0)] [] m0 := by
  have hT := hX.T
  unfold f_X8_steps at h
  refine qn_aload_n hX (pc := 0) dX8_steps_0 0 rfl rfl ?_
  refine qn_aload_n hX (pc := 1) dX8_steps_1 0 rfl rfl ?_
  refine qn_getI hX (pc := 2) fd_X8_steps_273 dX8_steps_2 k_x0 ?_
  obtain ⟨m1, e_m1, h⟩ := kp_e h
  refine qn_putI hX (pc := 5) fp_X8_steps_276 dX8_steps_5 k_x0 hR_m0 (hR_m0.i 825 _ rfl) e_m1 (fun hR_m1 => ?_) 
  refine qn_sub (ls' := [(0, .ref x0)]) [0] rfl ?_
  exact w_X8_steps_L8 hX hE  k_x0 hR_m1 h
theorem k_X8_steps (l : Launch) {G : qG} (hT : qT G) {N : Nat} {x0 : Nat} (k_x0 : gK G x0 = 9) {m0 : qM} {r : qM} (h : f_X8_steps N G x0 m0 = some r) : qC l yX8_steps wsX8_steps 1 25 G [.ref x0] m0 none True r := by
  refine qn_start (hy := by decide) hT (hw := rfl) (hn := Nat.le_of_ble_eq_true rfl) ?_
  intro X h1 h2 h3 h4 hX hR
  subst h4
  exact w_X8_steps hX ⟨h1, fun q => h2 ▸ q, h3⟩ k_x0 hR h
theorem dd_X8_steps : yX8_steps.cls = RX8 ∧ yX8_steps.cls ≠ "java/lang/invoke/MethodHandle" ∧ yX8_steps.cls ≠ "java/lang/invoke/VarHandle" ∧ (parseMethodDescriptor yX8_steps.desc).map (fun d => d.parameters.length) = some 0 := by decide +kernel
-- ProRataMarketModel.must
theorem hi_X8_must_8 : ∀ w ∈ wsX80, w ∈ wsX8_must := fun w h => List.mem_cons_of_mem _ (List.mem_append_right _ h)
theorem fd_X8_must_296 : qFd RX8 wsX8_must 296 8 28 0 828 := ⟨RX8, TX8, 32, _, rfl, hi_X8_must_8, by decide, (by decide +kernel : Cond.fieldLink RX8 296 (TX8 28).1 (TX8 28).2.1 (TX8 28).2.2.1 ∈ wsX8_must), rfl, rfl, by decide⟩
theorem fp_X8_must_296 : qFp RX8 wsX8_must 296 8 28 0 828 .int := ⟨RX8, TX8, 32, _, tyX8, rfl, hi_X8_must_8, by decide, (by decide +kernel : Cond.fieldLink RX8 296 (TX8 28).1 (TX8 28).2.1 (TX8 28).2.2.1 ∈ wsX8_must), rfl, rfl, by decide, tyX8_ok, nmX8, rfl, by decide +kernel⟩
theorem fd_X8_must_276 : qFd RX8 wsX8_must 276 8 24 0 824 := ⟨RX8, TX8, 32, _, rfl, hi_X8_must_8, by decide, (by decide +kernel : Cond.fieldLink RX8 276 (TX8 24).1 (TX8 24).2.1 (TX8 24).2.2.1 ∈ wsX8_must), rfl, rfl, by decide⟩
theorem fp_X8_must_299 : qFp RX8 wsX8_must 299 8 29 0 829 .int := ⟨RX8, TX8, 32, _, tyX8, rfl, hi_X8_must_8, by decide, (by decide +kernel : Cond.fieldLink RX8 299 (TX8 29).1 (TX8 29).2.1 (TX8 29).2.2.1 ∈ wsX8_must), rfl, rfl, by decide, tyX8_ok, nmX8, rfl, by decide +kernel⟩
set_option maxHeartbeats 4000000 in
set_option maxRecDepth 20000 in
theorem w_X8_must_24 {X : qB} {N : Nat} (hX : qOk X cX8_must RX8 3 (some .boolean) wsX8_must 0 0) {r : Int} {nu : qM} (hE : xr X = some (.int (iZ r)) ∧ (in01 r → xΦ X) ∧ xμ X = nu) 
    {x0 : Nat} (k_x0 : gK (xG X) x0 = 9) {m0 : qM} (hR_m0 : qR (xG X) m0)
    (h : f_X8_must_24 N (xG X)  x0 m0 = some (r, nu)) : qN X 3 24 [(0, .ref x0)] [] m0 := by
  have hT := hX.T
  unfold f_X8_must_24 at h
  refine qn_aload_n hX (pc := 24) dX8_must_24 0 rfl rfl ?_
  refine qn_getI hX (pc := 25) fd_X8_must_296 dX8_must_25 k_x0 ?_
  refine qn_if_ne hX (pc := 28) (hR_m0.i 828 _ rfl) 35 dX8_must_28 (by decide) (fun c1 => ?_) (fun c1 => ?_)
  · have h := ite_f h c1
    refine qn_iconst hX (pc := 35) dX8_must_35 ?_
    exact qn_zret hX (pc := 36) dX8_must_36 hE hR_m0 (by decide) (Option.some.inj h)
  · have h := ite_t h c1
    refine qn_iconst hX (pc := 31) dX8_must_31 ?_
    refine qn_goto hX (pc := 32) 36 dX8_must_32 (by decide) ?_
    exact qn_zret hX (pc := 36) dX8_must_36 hE hR_m0 (by decide) (Option.some.inj h)
set_option maxHeartbeats 4000000 in
set_option maxRecDepth 20000 in
theorem w_X8_must {X : qB} {N : Nat} (hX : qOk X cX8_must RX8 3 (some .boolean) wsX8_must 0 0) {r : Int} {nu : qM} (hE : xr X = some (.int (iZ r)) ∧ (in01 r → xΦ X) ∧ xμ X = nu) 
    {x0 : Nat} {x1 : Int} {x2 : Int} (k_x0 : gK (xG X) x0 = 9) (b_x1 : in01 x1) (r_x2 : in32 x2) {m0 : qM} (hR_m0 : qR (xG X) m0)
    (h : f_X8_must N (xG X)  x0 x1 x2 m0 = some (r, nu)) : qN X 3 0 [(0, .ref x0), (1, .int (iZ x1)), (2, .int (iZ x2))] [] m0 := by
  have hT := hX.T
  unfold f_X8_must at h
  refine qn_aload_n hX (pc := 0) dX8_must_0 0 rfl rfl ?_
  refine qn_getI hX (pc := 1) fd_X8_must_296 dX8_must_1 k_x0 ?_
  refine qn_if_ne hX (pc := 4) (hR_m0.i 828 _ rfl) 24 dX8_must_4 (by decide) (fun c1 => ?_) (fun c1 => ?_)
  · have h := ite_f h c1
    refine qn_sub (ls' := [(0, .ref x0)]) [0] rfl ?_
    exact w_X8_must_24 hX hE  k_x0 hR_m0 h
  · have h := ite_t h c1
    refine qn_iload_n hX (pc := 7) dX8_must_7 1 rfl rfl ?_
    refine qn_if_ne hX (pc := 8) b_x1.i 24 dX8_must_8 (by decide) (fun c2 => ?_) (fun c2 => ?_)
    · have h := ite_f h c2
      refine qn_sub (ls' := [(0, .ref x0)]) [0] rfl ?_
      exact w_X8_must_24 hX hE  k_x0 hR_m0 h
    · have h := ite_t h c2
      refine qn_aload_n hX (pc := 11) dX8_must_11 0 rfl rfl ?_
      refine qn_iload_n hX (pc := 12) dX8_must_12 2 rfl rfl ?_
      obtain ⟨m3, e_m3, h⟩ := kp_e h
      refine qn_putI hX (pc := 13) fp_X8_must_296 dX8_must_13 k_x0 hR_m0 r_x2 e_m3 (fun hR_m3 => ?_) 
      refine qn_aload_n hX (pc := 16) dX8_must_16 0 rfl rfl ?_
      refine qn_aload_n hX (pc := 17) dX8_must_17 0 rfl rfl ?_
      refine qn_getI hX (pc := 18) fd_X8_must_276 dX8_must_18 k_x0 ?_
      obtain ⟨m4, e_m4, h⟩ := kp_e h
      refine qn_putI hX (pc := 21) fp_X8_must_299 dX8_must_21 k_x0 hR_m3 (hR_m3.i 824 _ rfl) e_m4 (fun hR_m4 => ?_) 
      refine qn_sub (ls' := [(0, .ref x0)]) [0] rfl ?_
      exact w_X8_must_24 hX hE  k_x0 hR_m4 h
theorem k_X8_must (l : Launch) {G : qG} (hT : qT G) {N : Nat} {x0 : Nat} {x1 : Int} {x2 : Int} (k_x0 : gK G x0 = 9) (b_x1 : in01 x1) (r_x2 : in32 x2) {m0 : qM} {r : Int} {nu : qM} (h : f_X8_must N G x0 x1 x2 m0 = some (r, nu)) : qC l yX8_must wsX8_must 0 0 G [.ref x0, .int (iZ x1), .int (iZ x2)] m0 (some (.int (iZ r))) (in01 r) nu := by
  refine qn_start (hy := by decide) hT (hw := rfl) (hn := Nat.le_of_ble_eq_true rfl) ?_
  intro X h1 h2 h3 h4 hX hR
  subst h4
  exact w_X8_must hX ⟨h1, fun q => h2 ▸ q, h3⟩ k_x0 b_x1 r_x2 hR h
theorem dd_X8_must : yX8_must.cls = RX8 ∧ yX8_must.cls ≠ "java/lang/invoke/MethodHandle" ∧ yX8_must.cls ≠ "java/lang/invoke/VarHandle" ∧ (parseMethodDescriptor yX8_must.desc).map (fun d => d.parameters.length) = some 2 := by decide +kernel
-- ProRataMarketModel.reads
theorem hi_X8_reads_8 : ∀ w ∈ wsX80, w ∈ wsX8_reads := fun w h => List.mem_cons_of_mem _ (List.mem_append_right _ h)
theorem fd_X8_reads_285 : qFd RX8 wsX8_reads 285 8 27 0 827 := ⟨RX8, TX8, 32, _, rfl, hi_X8_reads_8, by decide, (by decide +kernel : Cond.fieldLink RX8 285 (TX8 27).1 (TX8 27).2.1 (TX8 27).2.2.1 ∈ wsX8_reads), rfl, rfl, by decide⟩
theorem fd_X8_reads_42 : qFd RX8 wsX8_reads 42 8 30 1 830 := ⟨RX8, TX8, 32, _, rfl, hi_X8_reads_8, by decide, (by decide +kernel : Cond.fieldLink RX8 42 (TX8 30).1 (TX8 30).2.1 (TX8 30).2.2.1 ∈ wsX8_reads), rfl, rfl, by decide⟩
theorem fd_X8_reads_306 : qFd RX8 wsX8_reads 306 8 31 0 831 := ⟨RX8, TX8, 32, _, rfl, hi_X8_reads_8, by decide, (by decide +kernel : Cond.fieldLink RX8 306 (TX8 31).1 (TX8 31).2.1 (TX8 31).2.2.1 ∈ wsX8_reads), rfl, rfl, by decide⟩
theorem fd_X8_reads_282 : qFd RX8 wsX8_reads 282 8 26 0 826 := ⟨RX8, TX8, 32, _, rfl, hi_X8_reads_8, by decide, (by decide +kernel : Cond.fieldLink RX8 282 (TX8 26).1 (TX8 26).2.1 (TX8 26).2.2.1 ∈ wsX8_reads), rfl, rfl, by decide⟩
set_option maxHeartbeats 4000000 in
set_option maxRecDepth 20000 in
theorem w_X8_reads_14 {X : qB} {N : Nat} (hX : qOk X cX8_reads RX8 4 (some .boolean) wsX8_reads 2 46) {r : Int} {nu : qM} (hE : xr X = some (.int (iZ r)) ∧ (in01 r → xΦ X) ∧ xμ X = nu) 
    {x0 : Nat} {x1 : Int} {x2 : Int} {x3 : Int} {s0 : Nat} {s1 : Int} (k_x0 : gK (xG X) x0 = 9) (r_x1 : in32 x1) (r_x2 : in32 x2) (r_x3 : in32 x3) (k_s0 : gK (xG X) s0 = 9) (b_s1 : in01 s1) {m0 : qM} (hR_m0 : qR (xG X) m0)
    (h : f_X8_reads_14 N (xG X)  x0 x1 x2 x3 s0 s1 m0 = some (r, nu)) : qN X 4 14 [(0, .ref x0), (1, .int (iZ x1)), (2, .int (iZ x2)), (3, .int (iZ x3))] [.int (iZ s1), .ref s0] m0 := by
  have hT := hX.T
  unfold f_X8_reads_14 at h
  refine qn_iconst hX (pc := 14) dX8_reads_14 ?_
  obtain ⟨v2, m1, e_m1, h⟩ := kb2_e h
  refine qn_callVi hX (pc := 15) [.int (iZ s1), .int (iZ 1)] [.int (iZ 1), .int (iZ s1)] 2 dX8_reads_15 gX8_reads_X8_must rfl dd_X8_must ⟨rfl, rfl⟩ rfl rfl (by decide) k_s0 rfl rfl hR_m0 (k_X8_must (xl X) hT k_s0 b_s1 (by decide) e_m1) (fun r_v2 hR_m1 => ?_)
  refine qn_if_eq hX (pc := 18) r_v2.i 41 dX8_reads_18 (by decide) (fun c3 => ?_) (fun c3 => ?_)
  · have h := ite_t h c3
    refine qn_iconst hX (pc := 41) dX8_reads_41 ?_
    exact qn_zret hX (pc := 42) dX8_reads_42 hE hR_m1 (by decide) (Option.some.inj h)
  · have h := ite_f h c3
    refine qn_aload_n hX (pc := 21) dX8_reads_21 0 rfl rfl ?_
    refine qn_aload_n hX (pc := 22) dX8_reads_22 0 rfl rfl ?_
    refine qn_getI hX (pc := 23) fd_X8_reads_285 dX8_reads_23 k_x0 ?_
    refine qn_i2l hX (pc := 26) (hR_m1.i 827 _ rfl) dX8_reads_26 ?_
    refine qn_iload_n hX (pc := 27) dX8_reads_27 2 rfl rfl ?_
    refine qn_i2l hX (pc := 28) r_x2 dX8_reads_28 ?_
    refine qn_iload_n hX (pc := 29) dX8_reads_29 3 rfl rfl ?_
    refine qn_i2l hX (pc := 30) r_x3 dX8_reads_30 ?_
    obtain ⟨v5, m4, e_m4, h⟩ := kb2_e h
    refine qn_callSi hX (pc := 31) [.long (lZ (gI m1 827 x0)), .long (lZ x2), .long (lZ x3)] [.long (lZ x3), .long (lZ x2), .long (lZ (gI m1 827 x0))] 3 dX8_reads_31 gX8_reads_X8_within rfl dd_X8_within ⟨rfl, rfl⟩ rfl rfl rfl hR_m1 (k_X8_within (xl X) hT (in32.l (hR_m1.i 827 _ rfl)) (in32.l r_x2) (in32.l r_x3) e_m4) (fun r_v5 hR_m4 => ?_)
    refine qn_iconst hX (pc := 34) dX8_reads_34 ?_
    obtain ⟨v7, m6, e_m6, h⟩ := kb2_e h
    refine qn_callVi hX (pc := 35) [.int (iZ v5), .int (iZ 2)] [.int (iZ 2), .int (iZ v5)] 2 dX8_reads_35 gX8_reads_X8_must rfl dd_X8_must ⟨rfl, rfl⟩ rfl rfl (by decide) k_x0 rfl rfl hR_m4 (k_X8_must (xl X) hT k_x0 r_v5 (by decide) e_m6) (fun r_v7 hR_m6 => ?_)
    refine qn_if_ne hX (pc := 38) r_v7.i 43 dX8_reads_38 (by decide) (fun c8 => ?_) (fun c8 => ?_)
    · have h := ite_f h c8
      refine qn_aload_n hX (pc := 43) dX8_reads_43 0 rfl rfl ?_
      refine qn_getR hX (pc := 44) fd_X8_reads_42 dX8_reads_44 k_x0 ?_
      refine qn_iconst hX (pc := 47) dX8_reads_47 ?_
      refine qn_aload_n hX (pc := 48) dX8_reads_48 0 rfl rfl ?_
      refine qn_getI hX (pc := 49) fd_X8_reads_306 dX8_reads_49 k_x0 ?_
      obtain ⟨v9, e_v9, r_v9, h⟩ := ckI_e h
      refine qn_imul hX (pc := 52) dX8_reads_52 e_v9 ?_
      refine qn_iload_n hX (pc := 53) dX8_reads_53 1 rfl rfl ?_
      obtain ⟨v10, e_v10, r_v10, h⟩ := ckI_e h
      refine qn_iadd hX (pc := 54) dX8_reads_54 e_v10 ?_
      refine qn_aload_n hX (pc := 55) dX8_reads_55 0 rfl rfl ?_
      refine qn_getI hX (pc := 56) fd_X8_reads_285 dX8_reads_56 k_x0 ?_
      obtain ⟨m11, e_m11, b_m11, h⟩ := wrA_e h
      refine qn_iast hX (pc := 59) 650 dX8_reads_59 (qr_830 hT k_x0) (by decide) b_m11 hR_m6 (hR_m6.i 827 _ rfl) e_m11 (fun hR_m11 => ?_) 
      refine qn_aload_n hX (pc := 60) dX8_reads_60 0 rfl rfl ?_
      obtain ⟨m12, e_m12, h⟩ := kb_e h
      refine qn_callVv hX (pc := 61) [] [] 0 dX8_reads_61 gX8_reads_X8_steps rfl dd_X8_steps ⟨rfl, rfl⟩ rfl rfl (by decide) k_x0 rfl rfl hR_m11 (k_X8_steps (xl X) hT k_x0 e_m12) (fun r_v13 hR_m12 => ?_)
      refine qn_iconst hX (pc := 64) dX8_reads_64 ?_
      exact qn_zret hX (pc := 65) dX8_reads_65 hE hR_m12 (by decide) (Option.some.inj h)
    · have h := ite_t h c8
      refine qn_iconst hX (pc := 41) dX8_reads_41 ?_
      exact qn_zret hX (pc := 42) dX8_reads_42 hE hR_m6 (by decide) (Option.some.inj h)
set_option maxHeartbeats 4000000 in
set_option maxRecDepth 20000 in
theorem w_X8_reads {X : qB} {N : Nat} (hX : qOk X cX8_reads RX8 4 (some .boolean) wsX8_reads 2 46) {r : Int} {nu : qM} (hE : xr X = some (.int (iZ r)) ∧ (in01 r → xΦ X) ∧ xμ X = nu) 
    {x0 : Nat} {x1 : Int} {x2 : Int} {x3 : Int} (k_x0 : gK (xG X) x0 = 9) (r_x1 : in32 x1) (r_x2 : in32 x2) (r_x3 : in32 x3) {m0 : qM} (hR_m0 : qR (xG X) m0)
    (h : f_X8_reads N (xG X)  x0 x1 x2 x3 m0 = some (r, nu)) : qN X 4 0 [(0, .ref x0), (1, .int (iZ x1)), (2, .int (iZ x2)), (3, .int (iZ x3))] [] m0 := by
  have hT := hX.T
  unfold f_X8_reads at h
  refine qn_aload_n hX (pc := 0) dX8_reads_0 0 rfl rfl ?_
  refine qn_aload_n hX (pc := 1) dX8_reads_1 0 rfl rfl ?_
  refine qn_getI hX (pc := 2) fd_X8_reads_282 dX8_reads_2 k_x0 ?_
  refine qn_iconst hX (pc := 5) dX8_reads_5 ?_
  refine qn_icmp_ne hX (pc := 6) (hR_m0.i 826 _ rfl) (by decide) 13 dX8_reads_6 (by decide) (fun c1 => ?_) (fun c1 => ?_)
  · have h := ite_f h c1
    refine qn_iconst hX (pc := 13) dX8_reads_13 ?_
    refine qn_sub (ls' := [(0, .ref x0), (1, .int (iZ x1)), (2, .int (iZ x2)), (3, .int (iZ x3))]) [0, 1, 2, 3] rfl ?_
    exact w_X8_reads_14 hX hE  k_x0 r_x1 r_x2 r_x3 k_x0 (by decide) hR_m0 h
  · have h := ite_t h c1
    refine qn_iconst hX (pc := 9) dX8_reads_9 ?_
    refine qn_goto hX (pc := 10) 14 dX8_reads_10 (by decide) ?_
    refine qn_sub (ls' := [(0, .ref x0), (1, .int (iZ x1)), (2, .int (iZ x2)), (3, .int (iZ x3))]) [0, 1, 2, 3] rfl ?_
    exact w_X8_reads_14 hX hE  k_x0 r_x1 r_x2 r_x3 k_x0 (by decide) hR_m0 h
theorem k_X8_reads (l : Launch) {G : qG} (hT : qT G) {N : Nat} {x0 : Nat} {x1 : Int} {x2 : Int} {x3 : Int} (k_x0 : gK G x0 = 9) (r_x1 : in32 x1) (r_x2 : in32 x2) (r_x3 : in32 x3) {m0 : qM} {r : Int} {nu : qM} (h : f_X8_reads N G x0 x1 x2 x3 m0 = some (r, nu)) : qC l yX8_reads wsX8_reads 2 46 G [.ref x0, .int (iZ x1), .int (iZ x2), .int (iZ x3)] m0 (some (.int (iZ r))) (in01 r) nu := by
  refine qn_start (hy := by decide) hT (hw := rfl) (hn := Nat.le_of_ble_eq_true rfl) ?_
  intro X h1 h2 h3 h4 hX hR
  subst h4
  exact w_X8_reads hX ⟨h1, fun q => h2 ▸ q, h3⟩ k_x0 r_x1 r_x2 r_x3 hR h
theorem dd_X8_reads : yX8_reads.cls = RX8 ∧ yX8_reads.cls ≠ "java/lang/invoke/MethodHandle" ∧ yX8_reads.cls ≠ "java/lang/invoke/VarHandle" ∧ (parseMethodDescriptor yX8_reads.desc).map (fun d => d.parameters.length) = some 3 := by decide +kernel
-- ProRataMarketModel.readsOrder
theorem hi_X8_readsOrder_8 : ∀ w ∈ wsX80, w ∈ wsX8_readsOrder := fun w h => List.mem_cons_of_mem _ (List.mem_append_right _ h)
theorem fd_X8_readsOrder_42 : qFd RX8 wsX8_readsOrder 42 8 30 1 830 := ⟨RX8, TX8, 32, _, rfl, hi_X8_readsOrder_8, by decide, (by decide +kernel : Cond.fieldLink RX8 42 (TX8 30).1 (TX8 30).2.1 (TX8 30).2.2.1 ∈ wsX8_readsOrder), rfl, rfl, by decide⟩
theorem fd_X8_readsOrder_306 : qFd RX8 wsX8_readsOrder 306 8 31 0 831 := ⟨RX8, TX8, 32, _, rfl, hi_X8_readsOrder_8, by decide, (by decide +kernel : Cond.fieldLink RX8 306 (TX8 31).1 (TX8 31).2.1 (TX8 31).2.2.1 ∈ wsX8_readsOrder), rfl, rfl, by decide⟩
theorem fd_X8_readsOrder_285 : qFd RX8 wsX8_readsOrder 285 8 27 0 827 := ⟨RX8, TX8, 32, _, rfl, hi_X8_readsOrder_8, by decide, (by decide +kernel : Cond.fieldLink RX8 285 (TX8 27).1 (TX8 27).2.1 (TX8 27).2.2.1 ∈ wsX8_readsOrder), rfl, rfl, by decide⟩
theorem fd_X8_readsOrder_282 : qFd RX8 wsX8_readsOrder 282 8 26 0 826 := ⟨RX8, TX8, 32, _, rfl, hi_X8_readsOrder_8, by decide, (by decide +kernel : Cond.fieldLink RX8 282 (TX8 26).1 (TX8 26).2.1 (TX8 26).2.2.1 ∈ wsX8_readsOrder), rfl, rfl, by decide⟩
set_option maxHeartbeats 4000000 in
set_option maxRecDepth 20000 in
theorem w_X8_readsOrder_236 {X : qB} {N : Nat} (hX : qOk X cX8_readsOrder RX8 2 (some .boolean) wsX8_readsOrder 3 69) {r : Int} {nu : qM} (hE : xr X = some (.int (iZ r)) ∧ (in01 r → xΦ X) ∧ xμ X = nu) 
    {x0 : Nat} {x1 : Int} {s0 : Nat} {s1 : Int} (k_x0 : gK (xG X) x0 = 9) (r_x1 : in32 x1) (k_s0 : gK (xG X) s0 = 9) (b_s1 : in01 s1) {m0 : qM} (hR_m0 : qR (xG X) m0)
    (h : f_X8_readsOrder_236 N (xG X)  x0 x1 s0 s1 m0 = some (r, nu)) : qN X 2 236 [(0, .ref x0), (1, .int (iZ x1))] [.int (iZ s1), .ref s0] m0 := by
  have hT := hX.T
  unfold f_X8_readsOrder_236 at h
  refine qn_iconst hX (pc := 236) dX8_readsOrder_236 ?_
  obtain ⟨v2, m1, e_m1, h⟩ := kb2_e h
  refine qn_callVi hX (pc := 237) [.int (iZ s1), .int (iZ 1)] [.int (iZ 1), .int (iZ s1)] 2 dX8_readsOrder_237 gX8_readsOrder_X8_must rfl dd_X8_must ⟨rfl, rfl⟩ rfl rfl (by decide) k_s0 rfl rfl hR_m0 (k_X8_must (xl X) hT k_s0 b_s1 (by decide) e_m1) (fun r_v2 hR_m1 => ?_)
  refine qn_if_ne hX (pc := 240) r_v2.i 245 dX8_readsOrder_240 (by decide) (fun c3 => ?_) (fun c3 => ?_)
  · have h := ite_f h c3
    refine qn_aload_n hX (pc := 245) dX8_readsOrder_245 0 rfl rfl ?_
    refine qn_getR hX (pc := 246) fd_X8_readsOrder_42 dX8_readsOrder_246 k_x0 ?_
    refine qn_iconst hX (pc := 249) dX8_readsOrder_249 ?_
    refine qn_aload_n hX (pc := 250) dX8_readsOrder_250 0 rfl rfl ?_
    refine qn_getI hX (pc := 251) fd_X8_readsOrder_306 dX8_readsOrder_251 k_x0 ?_
    obtain ⟨v4, e_v4, r_v4, h⟩ := ckI_e h
    refine qn_imul hX (pc := 254) dX8_readsOrder_254 e_v4 ?_
    refine qn_iconst hX (pc := 255) dX8_readsOrder_255 ?_
    obtain ⟨v5, e_v5, r_v5, h⟩ := ckI_e h
    refine qn_iadd hX (pc := 256) dX8_readsOrder_256 e_v5 ?_
    refine qn_iload_n hX (pc := 257) dX8_readsOrder_257 1 rfl rfl ?_
    obtain ⟨m6, e_m6, b_m6, h⟩ := wrA_e h
    refine qn_iast hX (pc := 258) 650 dX8_readsOrder_258 (qr_830 hT k_x0) (by decide) b_m6 hR_m1 r_x1 e_m6 (fun hR_m6 => ?_) 
    refine qn_aload_n hX (pc := 259) dX8_readsOrder_259 0 rfl rfl ?_
    obtain ⟨m7, e_m7, h⟩ := kb_e h
    refine qn_callVv hX (pc := 260) [] [] 0 dX8_readsOrder_260 gX8_readsOrder_X8_steps rfl dd_X8_steps ⟨rfl, rfl⟩ rfl rfl (by decide) k_x0 rfl rfl hR_m6 (k_X8_steps (xl X) hT k_x0 e_m7) (fun r_v8 hR_m7 => ?_)
    refine qn_iconst hX (pc := 263) dX8_readsOrder_263 ?_
    exact qn_zret hX (pc := 264) dX8_readsOrder_264 hE hR_m7 (by decide) (Option.some.inj h)
  · have h := ite_t h c3
    refine qn_iconst hX (pc := 243) dX8_readsOrder_243 ?_
    exact qn_zret hX (pc := 244) dX8_readsOrder_244 hE hR_m1 (by decide) (Option.some.inj h)
set_option maxHeartbeats 4000000 in
set_option maxRecDepth 20000 in
theorem w_X8_readsOrder_225 {X : qB} {N : Nat} (hX : qOk X cX8_readsOrder RX8 2 (some .boolean) wsX8_readsOrder 3 69) {r : Int} {nu : qM} (hE : xr X = some (.int (iZ r)) ∧ (in01 r → xΦ X) ∧ xμ X = nu) 
    {x0 : Nat} {s0 : Int} (k_x0 : gK (xG X) x0 = 9) (r_s0 : in32 s0) {m0 : qM} (hR_m0 : qR (xG X) m0)
    (h : f_X8_readsOrder_225 N (xG X)  x0 s0 m0 = some (r, nu)) : qN X 2 225 [(0, .ref x0)] [.int (iZ s0)] m0 := by
  have hT := hX.T
  unfold f_X8_readsOrder_225 at h
  refine qn_istore_n hX (pc := 225) (ls' := [(1, .int (iZ s0)), (0, .ref x0)]) dX8_readsOrder_225 rfl rfl rfl ?_
  refine qn_aload_n hX (pc := 226) dX8_readsOrder_226 1 rfl rfl ?_
  refine qn_iload_n hX (pc := 227) dX8_readsOrder_227 0 rfl rfl ?_
  refine qn_if_lt hX (pc := 228) r_s0 235 dX8_readsOrder_228 (by decide) (fun c1 => ?_) (fun c1 => ?_)
  · have h := ite_t h c1
    refine qn_iconst hX (pc := 235) dX8_readsOrder_235 ?_
    refine qn_sub (ls' := [(0, .ref x0), (1, .int (iZ s0))]) [1, 0] rfl ?_
    exact w_X8_readsOrder_236 hX hE  k_x0 r_s0 k_x0 (by decide) hR_m0 h
  · have h := ite_f h c1
    refine qn_iconst hX (pc := 231) dX8_readsOrder_231 ?_
    refine qn_goto hX (pc := 232) 236 dX8_readsOrder_232 (by decide) ?_
    refine qn_sub (ls' := [(0, .ref x0), (1, .int (iZ s0))]) [1, 0] rfl ?_
    exact w_X8_readsOrder_236 hX hE  k_x0 r_s0 k_x0 (by decide) hR_m0 h
set_option maxHeartbeats 4000000 in
set_option maxRecDepth 20000 in
theorem w_X8_readsOrder_90 {X : qB} {N : Nat} (hX : qOk X cX8_readsOrder RX8 2 (some .boolean) wsX8_readsOrder 3 69) {r : Int} {nu : qM} (hE : xr X = some (.int (iZ r)) ∧ (in01 r → xΦ X) ∧ xμ X = nu) 
    {x0 : Nat} {s0 : Nat} {s1 : Int} (k_x0 : gK (xG X) x0 = 9) (k_s0 : gK (xG X) s0 = 9) (b_s1 : in01 s1) {m0 : qM} (hR_m0 : qR (xG X) m0)
    (h : f_X8_readsOrder_90 N (xG X)  x0 s0 s1 m0 = some (r, nu)) : qN X 2 90 [(0, .ref x0)] [.int (iZ s1), .ref s0] m0 := by
  have hT := hX.T
  unfold f_X8_readsOrder_90 at h
  refine qn_iconst hX (pc := 90) dX8_readsOrder_90 ?_
  obtain ⟨v2, m1, e_m1, h⟩ := kb2_e h
  refine qn_callVi hX (pc := 91) [.int (iZ s1), .int (iZ 2)] [.int (iZ 2), .int (iZ s1)] 2 dX8_readsOrder_91 gX8_readsOrder_X8_must rfl dd_X8_must ⟨rfl, rfl⟩ rfl rfl (by decide) k_s0 rfl rfl hR_m0 (k_X8_must (xl X) hT k_s0 b_s1 (by decide) e_m1) (fun r_v2 hR_m1 => ?_)
  refine qn_if_ne hX (pc := 94) r_v2.i 99 dX8_readsOrder_94 (by decide) (fun c3 => ?_) (fun c3 => ?_)
  · have h := ite_f h c3
    refine qn_aload_n hX (pc := 99) dX8_readsOrder_99 0 rfl rfl ?_
    refine qn_getR hX (pc := 100) fd_X8_readsOrder_42 dX8_readsOrder_100 k_x0 ?_
    refine qn_iconst hX (pc := 103) dX8_readsOrder_103 ?_
    refine qn_aload_n hX (pc := 104) dX8_readsOrder_104 0 rfl rfl ?_
    refine qn_getI hX (pc := 105) fd_X8_readsOrder_306 dX8_readsOrder_105 k_x0 ?_
    obtain ⟨v4, e_v4, r_v4, h⟩ := ckI_e h
    refine qn_imul hX (pc := 108) dX8_readsOrder_108 e_v4 ?_
    refine qn_iconst hX (pc := 109) dX8_readsOrder_109 ?_
    obtain ⟨v5, e_v5, r_v5, h⟩ := ckI_e h
    refine qn_iadd hX (pc := 110) dX8_readsOrder_110 e_v5 ?_
    refine qn_aload_n hX (pc := 111) dX8_readsOrder_111 0 rfl rfl ?_
    refine qn_getI hX (pc := 112) fd_X8_readsOrder_285 dX8_readsOrder_112 k_x0 ?_
    obtain ⟨m6, e_m6, b_m6, h⟩ := wrA_e h
    refine qn_iast hX (pc := 115) 650 dX8_readsOrder_115 (qr_830 hT k_x0) (by decide) b_m6 hR_m1 (hR_m1.i 827 _ rfl) e_m6 (fun hR_m6 => ?_) 
    refine qn_aload_n hX (pc := 116) dX8_readsOrder_116 0 rfl rfl ?_
    refine qn_getR hX (pc := 117) fd_X8_readsOrder_42 dX8_readsOrder_117 k_x0 ?_
    refine qn_iconst hX (pc := 120) dX8_readsOrder_120 ?_
    refine qn_aload_n hX (pc := 121) dX8_readsOrder_121 0 rfl rfl ?_
    refine qn_getI hX (pc := 122) fd_X8_readsOrder_306 dX8_readsOrder_122 k_x0 ?_
    obtain ⟨v7, e_v7, r_v7, h⟩ := ckI_e h
    refine qn_imul hX (pc := 125) dX8_readsOrder_125 e_v7 ?_
    refine qn_iconst hX (pc := 126) dX8_readsOrder_126 ?_
    obtain ⟨v8, e_v8, r_v8, h⟩ := ckI_e h
    refine qn_iadd hX (pc := 127) dX8_readsOrder_127 e_v8 ?_
    refine qn_iconst hX (pc := 128) dX8_readsOrder_128 ?_
    obtain ⟨m9, e_m9, b_m9, h⟩ := wrA_e h
    refine qn_iast hX (pc := 129) 650 dX8_readsOrder_129 (qr_830 hT k_x0) (by decide) b_m9 hR_m6 (by decide) e_m9 (fun hR_m9 => ?_) 
    refine qn_aload_n hX (pc := 130) dX8_readsOrder_130 0 rfl rfl ?_
    obtain ⟨m10, e_m10, h⟩ := kb_e h
    refine qn_callVv hX (pc := 131) [] [] 0 dX8_readsOrder_131 gX8_readsOrder_X8_steps rfl dd_X8_steps ⟨rfl, rfl⟩ rfl rfl (by decide) k_x0 rfl rfl hR_m9 (k_X8_steps (xl X) hT k_x0 e_m10) (fun r_v11 hR_m10 => ?_)
    refine qn_aload_n hX (pc := 134) dX8_readsOrder_134 0 rfl rfl ?_
    refine qn_getI hX (pc := 135) fd_X8_readsOrder_282 dX8_readsOrder_135 k_x0 ?_
    refine qn_iconst hX (pc := 138) dX8_readsOrder_138 ?_
    refine qn_icmp_eq hX (pc := 139) (hR_m10.i 826 _ rfl) (by decide) 144 dX8_readsOrder_139 (by decide) (fun c12 => ?_) (fun c12 => ?_)
    · have h := ite_t h c12
      refine qn_aload_n hX (pc := 144) dX8_readsOrder_144 0 rfl rfl ?_
      refine qn_bipush hX (pc := 145) dX8_readsOrder_145 (by decide) ?_
      refine qn_bipush hX (pc := 147) dX8_readsOrder_147 (by decide) ?_
      refine qn_bipush hX (pc := 149) dX8_readsOrder_149 (by decide) ?_
      refine qn_bipush hX (pc := 151) dX8_readsOrder_151 (by decide) ?_
      refine qn_iconst hX (pc := 153) dX8_readsOrder_153 ?_
      obtain ⟨v14, m13, e_m13, h⟩ := kb2_e h
      refine qn_callVi hX (pc := 154) [.int (iZ 114), .int (iZ 101), .int (iZ 115), .int (iZ 116), .int (iZ 0)] [.int (iZ 0), .int (iZ 116), .int (iZ 115), .int (iZ 101), .int (iZ 114)] 5 dX8_readsOrder_154 gX8_readsOrder_X8_isWord rfl dd_X8_isWord ⟨rfl, rfl⟩ rfl rfl (by decide) k_x0 rfl rfl hR_m10 (k_X8_isWord (xl X) hT k_x0 (by decide) (by decide) (by decide) (by decide) (by decide) e_m13) (fun r_v14 hR_m13 => ?_)
      refine qn_if_eq hX (pc := 157) r_v14.i 164 dX8_readsOrder_157 (by decide) (fun c15 => ?_) (fun c15 => ?_)
      · have h := ite_t h c15
        refine qn_aload_n hX (pc := 164) dX8_readsOrder_164 0 rfl rfl ?_
        refine qn_bipush hX (pc := 165) dX8_readsOrder_165 (by decide) ?_
        refine qn_bipush hX (pc := 167) dX8_readsOrder_167 (by decide) ?_
        refine qn_bipush hX (pc := 169) dX8_readsOrder_169 (by decide) ?_
        refine qn_bipush hX (pc := 171) dX8_readsOrder_171 (by decide) ?_
        refine qn_iconst hX (pc := 173) dX8_readsOrder_173 ?_
        obtain ⟨v17, m16, e_m16, h⟩ := kb2_e h
        refine qn_callVi hX (pc := 174) [.int (iZ 99), .int (iZ 111), .int (iZ 109), .int (iZ 101), .int (iZ 0)] [.int (iZ 0), .int (iZ 101), .int (iZ 109), .int (iZ 111), .int (iZ 99)] 5 dX8_readsOrder_174 gX8_readsOrder_X8_isWord rfl dd_X8_isWord ⟨rfl, rfl⟩ rfl rfl (by decide) k_x0 rfl rfl hR_m13 (k_X8_isWord (xl X) hT k_x0 (by decide) (by decide) (by decide) (by decide) (by decide) e_m16) (fun r_v17 hR_m16 => ?_)
        refine qn_if_eq hX (pc := 177) r_v17.i 184 dX8_readsOrder_177 (by decide) (fun c18 => ?_) (fun c18 => ?_)
        · have h := ite_t h c18
          refine qn_aload_n hX (pc := 184) dX8_readsOrder_184 0 rfl rfl ?_
          refine qn_bipush hX (pc := 185) dX8_readsOrder_185 (by decide) ?_
          refine qn_bipush hX (pc := 187) dX8_readsOrder_187 (by decide) ?_
          refine qn_bipush hX (pc := 189) dX8_readsOrder_189 (by decide) ?_
          refine qn_bipush hX (pc := 191) dX8_readsOrder_191 (by decide) ?_
          refine qn_iconst hX (pc := 193) dX8_readsOrder_193 ?_
          obtain ⟨v20, m19, e_m19, h⟩ := kb2_e h
          refine qn_callVi hX (pc := 194) [.int (iZ 98), .int (iZ 111), .int (iZ 116), .int (iZ 104), .int (iZ 0)] [.int (iZ 0), .int (iZ 104), .int (iZ 116), .int (iZ 111), .int (iZ 98)] 5 dX8_readsOrder_194 gX8_readsOrder_X8_isWord rfl dd_X8_isWord ⟨rfl, rfl⟩ rfl rfl (by decide) k_x0 rfl rfl hR_m16 (k_X8_isWord (xl X) hT k_x0 (by decide) (by decide) (by decide) (by decide) (by decide) e_m19) (fun r_v20 hR_m19 => ?_)
          refine qn_if_eq hX (pc := 197) r_v20.i 204 dX8_readsOrder_197 (by decide) (fun c21 => ?_) (fun c21 => ?_)
          · have h := ite_t h c21
            refine qn_aload_n hX (pc := 204) dX8_readsOrder_204 0 rfl rfl ?_
            refine qn_bipush hX (pc := 205) dX8_readsOrder_205 (by decide) ?_
            refine qn_bipush hX (pc := 207) dX8_readsOrder_207 (by decide) ?_
            refine qn_bipush hX (pc := 209) dX8_readsOrder_209 (by decide) ?_
            refine qn_bipush hX (pc := 211) dX8_readsOrder_211 (by decide) ?_
            refine qn_iconst hX (pc := 213) dX8_readsOrder_213 ?_
            obtain ⟨v23, m22, e_m22, h⟩ := kb2_e h
            refine qn_callVi hX (pc := 214) [.int (iZ 108), .int (iZ 101), .int (iZ 115), .int (iZ 115), .int (iZ 0)] [.int (iZ 0), .int (iZ 115), .int (iZ 115), .int (iZ 101), .int (iZ 108)] 5 dX8_readsOrder_214 gX8_readsOrder_X8_isWord rfl dd_X8_isWord ⟨rfl, rfl⟩ rfl rfl (by decide) k_x0 rfl rfl hR_m19 (k_X8_isWord (xl X) hT k_x0 (by decide) (by decide) (by decide) (by decide) (by decide) e_m22) (fun r_v23 hR_m22 => ?_)
            refine qn_if_eq hX (pc := 217) r_v23.i 224 dX8_readsOrder_217 (by decide) (fun c24 => ?_) (fun c24 => ?_)
            · have h := ite_t h c24
              refine qn_iconst hX (pc := 224) dX8_readsOrder_224 ?_
              refine qn_sub (ls' := [(0, .ref x0)]) [0] rfl ?_
              exact w_X8_readsOrder_225 hX hE  k_x0 (by decide) hR_m22 h
            · have h := ite_f h c24
              refine qn_iconst hX (pc := 220) dX8_readsOrder_220 ?_
              refine qn_goto hX (pc := 221) 225 dX8_readsOrder_221 (by decide) ?_
              refine qn_sub (ls' := [(0, .ref x0)]) [0] rfl ?_
              exact w_X8_readsOrder_225 hX hE  k_x0 (by decide) hR_m22 h
          · have h := ite_f h c21
            refine qn_iconst hX (pc := 200) dX8_readsOrder_200 ?_
            refine qn_goto hX (pc := 201) 225 dX8_readsOrder_201 (by decide) ?_
            refine qn_sub (ls' := [(0, .ref x0)]) [0] rfl ?_
            exact w_X8_readsOrder_225 hX hE  k_x0 (by decide) hR_m19 h
        · have h := ite_f h c18
          refine qn_iconst hX (pc := 180) dX8_readsOrder_180 ?_
          refine qn_goto hX (pc := 181) 225 dX8_readsOrder_181 (by decide) ?_
          refine qn_sub (ls' := [(0, .ref x0)]) [0] rfl ?_
          exact w_X8_readsOrder_225 hX hE  k_x0 (by decide) hR_m16 h
      · have h := ite_f h c15
        refine qn_iconst hX (pc := 160) dX8_readsOrder_160 ?_
        refine qn_goto hX (pc := 161) 225 dX8_readsOrder_161 (by decide) ?_
        refine qn_sub (ls' := [(0, .ref x0)]) [0] rfl ?_
        exact w_X8_readsOrder_225 hX hE  k_x0 (by decide) hR_m13 h
    · have h := ite_f h c12
      refine qn_iconst hX (pc := 142) dX8_readsOrder_142 ?_
      exact qn_zret hX (pc := 143) dX8_readsOrder_143 hE hR_m10 (by decide) (Option.some.inj h)
  · have h := ite_t h c3
    refine qn_iconst hX (pc := 97) dX8_readsOrder_97 ?_
    exact qn_zret hX (pc := 98) dX8_readsOrder_98 hE hR_m1 (by decide) (Option.some.inj h)
set_option maxHeartbeats 4000000 in
set_option maxRecDepth 20000 in
theorem w_X8_readsOrder_89 {X : qB} {N : Nat} (hX : qOk X cX8_readsOrder RX8 2 (some .boolean) wsX8_readsOrder 3 69) {r : Int} {nu : qM} (hE : xr X = some (.int (iZ r)) ∧ (in01 r → xΦ X) ∧ xμ X = nu) 
    {x0 : Nat} {s0 : Nat} (k_x0 : gK (xG X) x0 = 9) (k_s0 : gK (xG X) s0 = 9) {m0 : qM} (hR_m0 : qR (xG X) m0)
    (h : f_X8_readsOrder_89 N (xG X)  x0 s0 m0 = some (r, nu)) : qN X 2 89 [(0, .ref x0)] [.ref s0] m0 := by
  have hT := hX.T
  unfold f_X8_readsOrder_89 at h
  refine qn_iconst hX (pc := 89) dX8_readsOrder_89 ?_
  refine qn_sub (ls' := [(0, .ref x0)]) [0] rfl ?_
  exact w_X8_readsOrder_90 hX hE  k_x0 k_s0 (by decide) hR_m0 h
set_option maxHeartbeats 4000000 in
set_option maxRecDepth 20000 in
theorem w_X8_readsOrder_39 {X : qB} {N : Nat} (hX : qOk X cX8_readsOrder RX8 2 (some .boolean) wsX8_readsOrder 3 69) {r : Int} {nu : qM} (hE : xr X = some (.int (iZ r)) ∧ (in01 r → xΦ X) ∧ xμ X = nu) 
    {x0 : Nat} {s0 : Nat} {s1 : Int} (k_x0 : gK (xG X) x0 = 9) (k_s0 : gK (xG X) s0 = 9) (b_s1 : in01 s1) {m0 : qM} (hR_m0 : qR (xG X) m0)
    (h : f_X8_readsOrder_39 N (xG X)  x0 s0 s1 m0 = some (r, nu)) : qN X 2 39 [(0, .ref x0)] [.int (iZ s1), .ref s0] m0 := by
  have hT := hX.T
  unfold f_X8_readsOrder_39 at h
  refine qn_iconst hX (pc := 39) dX8_readsOrder_39 ?_
  obtain ⟨v2, m1, e_m1, h⟩ := kb2_e h
  refine qn_callVi hX (pc := 40) [.int (iZ s1), .int (iZ 1)] [.int (iZ 1), .int (iZ s1)] 2 dX8_readsOrder_40 gX8_readsOrder_X8_must rfl dd_X8_must ⟨rfl, rfl⟩ rfl rfl (by decide) k_s0 rfl rfl hR_m0 (k_X8_must (xl X) hT k_s0 b_s1 (by decide) e_m1) (fun r_v2 hR_m1 => ?_)
  refine qn_if_eq hX (pc := 43) r_v2.i 97 dX8_readsOrder_43 (by decide) (fun c3 => ?_) (fun c3 => ?_)
  · have h := ite_t h c3
    refine qn_iconst hX (pc := 97) dX8_readsOrder_97 ?_
    exact qn_zret hX (pc := 98) dX8_readsOrder_98 hE hR_m1 (by decide) (Option.some.inj h)
  · have h := ite_f h c3
    refine qn_aload_n hX (pc := 46) dX8_readsOrder_46 0 rfl rfl ?_
    refine qn_aload_n hX (pc := 47) dX8_readsOrder_47 0 rfl rfl ?_
    refine qn_getI hX (pc := 48) fd_X8_readsOrder_285 dX8_readsOrder_48 k_x0 ?_
    refine qn_i2l hX (pc := 51) (hR_m1.i 827 _ rfl) dX8_readsOrder_51 ?_
    refine qn_lconst hX (pc := 52) 1 dX8_readsOrder_52 (by decide) ?_
    refine qn_ldc2 hX (pc := 53) 9999999 dX8_readsOrder_53 (by decide +kernel : Cond.constantLong RX8 162 (9999999) ∈ wsX8_readsOrder) (by decide) ?_
    obtain ⟨v5, m4, e_m4, h⟩ := kb2_e h
    refine qn_callSi hX (pc := 56) [.long (lZ (gI m1 827 x0)), .long (lZ 1), .long (lZ 9999999)] [.long (lZ 9999999), .long (lZ 1), .long (lZ (gI m1 827 x0))] 3 dX8_readsOrder_56 gX8_readsOrder_X8_within rfl dd_X8_within ⟨rfl, rfl⟩ rfl rfl rfl hR_m1 (k_X8_within (xl X) hT (in32.l (hR_m1.i 827 _ rfl)) (by decide) (by decide) e_m4) (fun r_v5 hR_m4 => ?_)
    refine qn_if_eq hX (pc := 59) r_v5.i 89 dX8_readsOrder_59 (by decide) (fun c6 => ?_) (fun c6 => ?_)
    · have h := ite_t h c6
      refine qn_sub (ls' := [(0, .ref x0)]) [0] rfl ?_
      exact w_X8_readsOrder_89 hX hE  k_x0 k_x0 hR_m4 h
    · have h := ite_f h c6
      refine qn_aload_n hX (pc := 62) dX8_readsOrder_62 0 rfl rfl ?_
      refine qn_getI hX (pc := 63) fd_X8_readsOrder_285 dX8_readsOrder_63 k_x0 ?_
      refine qn_aload_n hX (pc := 66) dX8_readsOrder_66 0 rfl rfl ?_
      refine qn_getR hX (pc := 67) fd_X8_readsOrder_42 dX8_readsOrder_67 k_x0 ?_
      refine qn_iconst hX (pc := 70) dX8_readsOrder_70 ?_
      refine qn_aload_n hX (pc := 71) dX8_readsOrder_71 0 rfl rfl ?_
      refine qn_getI hX (pc := 72) fd_X8_readsOrder_306 dX8_readsOrder_72 k_x0 ?_
      obtain ⟨v7, e_v7, r_v7, h⟩ := ckI_e h
      refine qn_imul hX (pc := 75) dX8_readsOrder_75 e_v7 ?_
      refine qn_iconst hX (pc := 76) dX8_readsOrder_76 ?_
      obtain ⟨v8, e_v8, r_v8, h⟩ := ckI_e h
      refine qn_iadd hX (pc := 77) dX8_readsOrder_77 e_v8 ?_
      obtain ⟨v9, e_v9, b_v9, h⟩ := rdA_e h
      have r_v9 : in32 v9 := by rw [e_v9]; exact hR_m4.a (n := 650) _ (qr_830 hT k_x0) (by decide)
      refine qn_iald hX (pc := 78) 650 dX8_readsOrder_78 (qr_830 hT k_x0) (by decide) b_v9 e_v9 ?_
      obtain ⟨v11, m10, e_m10, h⟩ := kb2_e h
      refine qn_callSi hX (pc := 79) [.int (iZ (gI m4 827 x0)), .int (iZ v9)] [.int (iZ v9), .int (iZ (gI m4 827 x0))] 2 dX8_readsOrder_79 gX8_readsOrder_X8_isInt rfl dd_X8_isInt ⟨rfl, rfl⟩ rfl rfl rfl hR_m4 (k_X8_isInt (xl X) hT (hR_m4.i 827 _ rfl) r_v9 e_m10) (fun r_v11 hR_m10 => ?_)
      refine qn_if_eq hX (pc := 82) r_v11.i 89 dX8_readsOrder_82 (by decide) (fun c12 => ?_) (fun c12 => ?_)
      · have h := ite_t h c12
        refine qn_sub (ls' := [(0, .ref x0)]) [0] rfl ?_
        exact w_X8_readsOrder_89 hX hE  k_x0 k_x0 hR_m10 h
      · have h := ite_f h c12
        refine qn_iconst hX (pc := 85) dX8_readsOrder_85 ?_
        refine qn_goto hX (pc := 86) 90 dX8_readsOrder_86 (by decide) ?_
        refine qn_sub (ls' := [(0, .ref x0)]) [0] rfl ?_
        exact w_X8_readsOrder_90 hX hE  k_x0 k_x0 (by decide) hR_m10 h
set_option maxHeartbeats 4000000 in
set_option maxRecDepth 20000 in
theorem w_X8_readsOrder {X : qB} {N : Nat} (hX : qOk X cX8_readsOrder RX8 2 (some .boolean) wsX8_readsOrder 3 69) {r : Int} {nu : qM} (hE : xr X = some (.int (iZ r)) ∧ (in01 r → xΦ X) ∧ xμ X = nu) 
    {x0 : Nat} (k_x0 : gK (xG X) x0 = 9) {m0 : qM} (hR_m0 : qR (xG X) m0)
    (h : f_X8_readsOrder N (xG X)  x0 m0 = some (r, nu)) : qN X 2 0 [(0, .ref x0)] [] m0 := by
  have hT := hX.T
  unfold f_X8_readsOrder at h
  refine qn_aload_n hX (pc := 0) dX8_readsOrder_0 0 rfl rfl ?_
  refine qn_iconst hX (pc := 1) dX8_readsOrder_1 ?_
  refine qn_iconst hX (pc := 2) dX8_readsOrder_2 ?_
  refine qn_bipush hX (pc := 3) dX8_readsOrder_3 (by decide) ?_
  obtain ⟨v2, m1, e_m1, h⟩ := kb2_e h
  refine qn_callVi hX (pc := 5) [.int (iZ 1), .int (iZ 0), .int (iZ 9)] [.int (iZ 9), .int (iZ 0), .int (iZ 1)] 3 dX8_readsOrder_5 gX8_readsOrder_X8_reads rfl dd_X8_reads ⟨rfl, rfl⟩ rfl rfl (by decide) k_x0 rfl rfl hR_m0 (k_X8_reads (xl X) hT k_x0 (by decide) (by decide) (by decide) e_m1) (fun r_v2 hR_m1 => ?_)
  refine qn_if_eq hX (pc := 8) r_v2.i 23 dX8_readsOrder_8 (by decide) (fun c3 => ?_) (fun c3 => ?_)
  · have h := ite_t h c3
    refine qn_iconst hX (pc := 23) dX8_readsOrder_23 ?_
    exact qn_zret hX (pc := 24) dX8_readsOrder_24 hE hR_m1 (by decide) (Option.some.inj h)
  · have h := ite_f h c3
    refine qn_aload_n hX (pc := 11) dX8_readsOrder_11 0 rfl rfl ?_
    refine qn_iconst hX (pc := 12) dX8_readsOrder_12 ?_
    refine qn_iconst hX (pc := 13) dX8_readsOrder_13 ?_
    refine qn_sipush hX (pc := 14) dX8_readsOrder_14 (by decide) ?_
    obtain ⟨v5, m4, e_m4, h⟩ := kb2_e h
    refine qn_callVi hX (pc := 17) [.int (iZ 2), .int (iZ 1), .int (iZ 1000)] [.int (iZ 1000), .int (iZ 1), .int (iZ 2)] 3 dX8_readsOrder_17 gX8_readsOrder_X8_reads rfl dd_X8_reads ⟨rfl, rfl⟩ rfl rfl (by decide) k_x0 rfl rfl hR_m1 (k_X8_reads (xl X) hT k_x0 (by decide) (by decide) (by decide) e_m4) (fun r_v5 hR_m4 => ?_)
    refine qn_if_ne hX (pc := 20) r_v5.i 25 dX8_readsOrder_20 (by decide) (fun c6 => ?_) (fun c6 => ?_)
    · have h := ite_f h c6
      refine qn_aload_n hX (pc := 25) dX8_readsOrder_25 0 rfl rfl ?_
      refine qn_aload_n hX (pc := 26) dX8_readsOrder_26 0 rfl rfl ?_
      refine qn_getI hX (pc := 27) fd_X8_readsOrder_282 dX8_readsOrder_27 k_x0 ?_
      refine qn_iconst hX (pc := 30) dX8_readsOrder_30 ?_
      refine qn_icmp_ne hX (pc := 31) (hR_m4.i 826 _ rfl) (by decide) 38 dX8_readsOrder_31 (by decide) (fun c7 => ?_) (fun c7 => ?_)
      · have h := ite_f h c7
        refine qn_iconst hX (pc := 38) dX8_readsOrder_38 ?_
        refine qn_sub (ls' := [(0, .ref x0)]) [0] rfl ?_
        exact w_X8_readsOrder_39 hX hE  k_x0 k_x0 (by decide) hR_m4 h
      · have h := ite_t h c7
        refine qn_iconst hX (pc := 34) dX8_readsOrder_34 ?_
        refine qn_goto hX (pc := 35) 39 dX8_readsOrder_35 (by decide) ?_
        refine qn_sub (ls' := [(0, .ref x0)]) [0] rfl ?_
        exact w_X8_readsOrder_39 hX hE  k_x0 k_x0 (by decide) hR_m4 h
    · have h := ite_t h c6
      refine qn_iconst hX (pc := 23) dX8_readsOrder_23 ?_
      exact qn_zret hX (pc := 24) dX8_readsOrder_24 hE hR_m4 (by decide) (Option.some.inj h)
theorem k_X8_readsOrder (l : Launch) {G : qG} (hT : qT G) {N : Nat} {x0 : Nat} (k_x0 : gK G x0 = 9) {m0 : qM} {r : Int} {nu : qM} (h : f_X8_readsOrder N G x0 m0 = some (r, nu)) : qC l yX8_readsOrder wsX8_readsOrder 3 69 G [.ref x0] m0 (some (.int (iZ r))) (in01 r) nu := by
  refine qn_start (hy := by decide) hT (hw := rfl) (hn := Nat.le_of_ble_eq_true rfl) ?_
  intro X h1 h2 h3 h4 hX hR
  subst h4
  exact w_X8_readsOrder hX ⟨h1, fun q => h2 ▸ q, h3⟩ k_x0 hR h
theorem dd_X8_readsOrder : yX8_readsOrder.cls = RX8 ∧ yX8_readsOrder.cls ≠ "java/lang/invoke/MethodHandle" ∧ yX8_readsOrder.cls ≠ "java/lang/invoke/VarHandle" ∧ (parseMethodDescriptor yX8_readsOrder.desc).map (fun d => d.parameters.length) = some 0 := by decide +kernel
-- ProRataMarketModel.readsLine
theorem hi_X8_readsLine_8 : ∀ w ∈ wsX80, w ∈ wsX8_readsLine := fun w h => List.mem_cons_of_mem _ (List.mem_append_right _ h)
theorem fd_X8_readsLine_42 : qFd RX8 wsX8_readsLine 42 8 30 1 830 := ⟨RX8, TX8, 32, _, rfl, hi_X8_readsLine_8, by decide, (by decide +kernel : Cond.fieldLink RX8 42 (TX8 30).1 (TX8 30).2.1 (TX8 30).2.2.1 ∈ wsX8_readsLine), rfl, rfl, by decide⟩
theorem fd_X8_readsLine_306 : qFd RX8 wsX8_readsLine 306 8 31 0 831 := ⟨RX8, TX8, 32, _, rfl, hi_X8_readsLine_8, by decide, (by decide +kernel : Cond.fieldLink RX8 306 (TX8 31).1 (TX8 31).2.1 (TX8 31).2.2.1 ∈ wsX8_readsLine), rfl, rfl, by decide⟩
set_option maxHeartbeats 4000000 in
set_option maxRecDepth 20000 in
theorem w_X8_readsLine_15 {X : qB} {N : Nat} (hX : qOk X cX8_readsLine RX8 2 (some .boolean) wsX8_readsLine 4 90) {r : Int} {nu : qM} (hE : xr X = some (.int (iZ r)) ∧ (in01 r → xΦ X) ∧ xμ X = nu) 
    {x0 : Nat} {x1 : Int} {s0 : Nat} {s1 : Int} (k_x0 : gK (xG X) x0 = 9) (r_x1 : in32 x1) (k_s0 : gK (xG X) s0 = 9) (b_s1 : in01 s1) {m0 : qM} (hR_m0 : qR (xG X) m0)
    (h : f_X8_readsLine_15 N (xG X)  x0 x1 s0 s1 m0 = some (r, nu)) : qN X 2 15 [(0, .ref x0), (1, .int (iZ x1))] [.int (iZ s1), .ref s0] m0 := by
  have hT := hX.T
  unfold f_X8_readsLine_15 at h
  refine qn_iconst hX (pc := 15) dX8_readsLine_15 ?_
  obtain ⟨v2, m1, e_m1, h⟩ := kb2_e h
  refine qn_callVi hX (pc := 16) [.int (iZ s1), .int (iZ 1)] [.int (iZ 1), .int (iZ s1)] 2 dX8_readsLine_16 gX8_readsLine_X8_must rfl dd_X8_must ⟨rfl, rfl⟩ rfl rfl (by decide) k_s0 rfl rfl hR_m0 (k_X8_must (xl X) hT k_s0 b_s1 (by decide) e_m1) (fun r_v2 hR_m1 => ?_)
  refine qn_if_ne hX (pc := 19) r_v2.i 24 dX8_readsLine_19 (by decide) (fun c3 => ?_) (fun c3 => ?_)
  · have h := ite_f h c3
    refine qn_aload_n hX (pc := 24) dX8_readsLine_24 0 rfl rfl ?_
    refine qn_getR hX (pc := 25) fd_X8_readsLine_42 dX8_readsLine_25 k_x0 ?_
    refine qn_iconst hX (pc := 28) dX8_readsLine_28 ?_
    refine qn_aload_n hX (pc := 29) dX8_readsLine_29 0 rfl rfl ?_
    refine qn_getI hX (pc := 30) fd_X8_readsLine_306 dX8_readsLine_30 k_x0 ?_
    obtain ⟨v4, e_v4, r_v4, h⟩ := ckI_e h
    refine qn_imul hX (pc := 33) dX8_readsLine_33 e_v4 ?_
    refine qn_iload_n hX (pc := 34) dX8_readsLine_34 1 rfl rfl ?_
    obtain ⟨m5, e_m5, b_m5, h⟩ := wrA_e h
    refine qn_iast hX (pc := 35) 650 dX8_readsLine_35 (qr_830 hT k_x0) (by decide) b_m5 hR_m1 r_x1 e_m5 (fun hR_m5 => ?_) 
    refine qn_aload_n hX (pc := 36) dX8_readsLine_36 0 rfl rfl ?_
    obtain ⟨m6, e_m6, h⟩ := kb_e h
    refine qn_callVv hX (pc := 37) [] [] 0 dX8_readsLine_37 gX8_readsLine_X8_steps rfl dd_X8_steps ⟨rfl, rfl⟩ rfl rfl (by decide) k_x0 rfl rfl hR_m5 (k_X8_steps (xl X) hT k_x0 e_m6) (fun r_v7 hR_m6 => ?_)
    refine qn_iload_n hX (pc := 40) dX8_readsLine_40 1 rfl rfl ?_
    by_cases c8 : x1 = 0
    · have h := ite_t h c8
      refine qn_tswIn hX (pc := 41) r_x1 80 dX8_readsLine_41 0 c8 (by decide) rfl (by decide) ?_
      refine qn_aload_n hX (pc := 80) dX8_readsLine_80 0 rfl rfl ?_
      obtain ⟨v10, m9, e_m9, h⟩ := kb2_e h
      refine qn_callVi hX (pc := 81) [] [] 0 dX8_readsLine_81 gX8_readsLine_X8_readsOrder rfl dd_X8_readsOrder ⟨rfl, rfl⟩ rfl rfl (by decide) k_x0 rfl rfl hR_m6 (k_X8_readsOrder (xl X) hT k_x0 e_m9) (fun r_v10 hR_m9 => ?_)
      exact qn_zret hX (pc := 84) dX8_readsLine_84 hE hR_m9 r_v10 (Option.some.inj h)
    have h := ite_f h c8
    by_cases c11 : x1 = 1
    · have h := ite_t h c11
      refine qn_tswIn hX (pc := 41) r_x1 80 dX8_readsLine_41 1 c11 (by decide) rfl (by decide) ?_
      refine qn_aload_n hX (pc := 80) dX8_readsLine_80 0 rfl rfl ?_
      obtain ⟨v13, m12, e_m12, h⟩ := kb2_e h
      refine qn_callVi hX (pc := 81) [] [] 0 dX8_readsLine_81 gX8_readsLine_X8_readsOrder rfl dd_X8_readsOrder ⟨rfl, rfl⟩ rfl rfl (by decide) k_x0 rfl rfl hR_m6 (k_X8_readsOrder (xl X) hT k_x0 e_m12) (fun r_v13 hR_m12 => ?_)
      exact qn_zret hX (pc := 84) dX8_readsLine_84 hE hR_m12 r_v13 (Option.some.inj h)
    have h := ite_f h c11
    by_cases c14 : x1 = 2
    · have h := ite_t h c14
      refine qn_tswIn hX (pc := 41) r_x1 85 dX8_readsLine_41 2 c14 (by decide) rfl (by decide) ?_
      refine qn_aload_n hX (pc := 85) dX8_readsLine_85 0 rfl rfl ?_
      refine qn_iconst hX (pc := 86) dX8_readsLine_86 ?_
      refine qn_iconst hX (pc := 87) dX8_readsLine_87 ?_
      refine qn_ldc hX (pc := 88) 9999999 dX8_readsLine_88 (by decide +kernel : Cond.constant RX8 201 (9999999) ∈ wsX8_readsLine) (by decide) ?_
      obtain ⟨v16, m15, e_m15, h⟩ := kb2_e h
      refine qn_callVi hX (pc := 90) [.int (iZ 1), .int (iZ 1), .int (iZ 9999999)] [.int (iZ 9999999), .int (iZ 1), .int (iZ 1)] 3 dX8_readsLine_90 gX8_readsLine_X8_reads rfl dd_X8_reads ⟨rfl, rfl⟩ rfl rfl (by decide) k_x0 rfl rfl hR_m6 (k_X8_reads (xl X) hT k_x0 (by decide) (by decide) (by decide) e_m15) (fun r_v16 hR_m15 => ?_)
      exact qn_zret hX (pc := 93) dX8_readsLine_93 hE hR_m15 r_v16 (Option.some.inj h)
    have h := ite_f h c14
    by_cases c17 : x1 = 3
    · have h := ite_t h c17
      refine qn_tswIn hX (pc := 41) r_x1 94 dX8_readsLine_41 3 c17 (by decide) rfl (by decide) ?_
      refine qn_aload_n hX (pc := 94) dX8_readsLine_94 0 rfl rfl ?_
      refine qn_iconst hX (pc := 95) dX8_readsLine_95 ?_
      refine qn_iconst hX (pc := 96) dX8_readsLine_96 ?_
      refine qn_ldc hX (pc := 97) 9999999 dX8_readsLine_97 (by decide +kernel : Cond.constant RX8 201 (9999999) ∈ wsX8_readsLine) (by decide) ?_
      obtain ⟨v19, m18, e_m18, h⟩ := kb2_e h
      refine qn_callVi hX (pc := 99) [.int (iZ 1), .int (iZ 1), .int (iZ 9999999)] [.int (iZ 9999999), .int (iZ 1), .int (iZ 1)] 3 dX8_readsLine_99 gX8_readsLine_X8_reads rfl dd_X8_reads ⟨rfl, rfl⟩ rfl rfl (by decide) k_x0 rfl rfl hR_m6 (k_X8_reads (xl X) hT k_x0 (by decide) (by decide) (by decide) e_m18) (fun r_v19 hR_m18 => ?_)
      refine qn_if_eq hX (pc := 102) r_v19.i 121 dX8_readsLine_102 (by decide) (fun c20 => ?_) (fun c20 => ?_)
      · have h := ite_t h c20
        refine qn_iconst hX (pc := 121) dX8_readsLine_121 ?_
        exact qn_zret hX (pc := 122) dX8_readsLine_122 hE hR_m18 (by decide) (Option.some.inj h)
      · have h := ite_f h c20
        refine qn_aload_n hX (pc := 105) dX8_readsLine_105 0 rfl rfl ?_
        refine qn_iconst hX (pc := 106) dX8_readsLine_106 ?_
        refine qn_iconst hX (pc := 107) dX8_readsLine_107 ?_
        refine qn_sipush hX (pc := 108) dX8_readsLine_108 (by decide) ?_
        obtain ⟨v22, m21, e_m21, h⟩ := kb2_e h
        refine qn_callVi hX (pc := 111) [.int (iZ 2), .int (iZ 1), .int (iZ 1000)] [.int (iZ 1000), .int (iZ 1), .int (iZ 2)] 3 dX8_readsLine_111 gX8_readsLine_X8_reads rfl dd_X8_reads ⟨rfl, rfl⟩ rfl rfl (by decide) k_x0 rfl rfl hR_m18 (k_X8_reads (xl X) hT k_x0 (by decide) (by decide) (by decide) e_m21) (fun r_v22 hR_m21 => ?_)
        refine qn_if_eq hX (pc := 114) r_v22.i 121 dX8_readsLine_114 (by decide) (fun c23 => ?_) (fun c23 => ?_)
        · have h := ite_t h c23
          refine qn_iconst hX (pc := 121) dX8_readsLine_121 ?_
          exact qn_zret hX (pc := 122) dX8_readsLine_122 hE hR_m21 (by decide) (Option.some.inj h)
        · have h := ite_f h c23
          refine qn_iconst hX (pc := 117) dX8_readsLine_117 ?_
          refine qn_goto hX (pc := 118) 122 dX8_readsLine_118 (by decide) ?_
          exact qn_zret hX (pc := 122) dX8_readsLine_122 hE hR_m21 (by decide) (Option.some.inj h)
    have h := ite_f h c17
    by_cases c24 : x1 = 4
    · have h := ite_t h c24
      refine qn_tswIn hX (pc := 41) r_x1 123 dX8_readsLine_41 4 c24 (by decide) rfl (by decide) ?_
      refine qn_aload_n hX (pc := 123) dX8_readsLine_123 0 rfl rfl ?_
      refine qn_iconst hX (pc := 124) dX8_readsLine_124 ?_
      refine qn_iconst hX (pc := 125) dX8_readsLine_125 ?_
      refine qn_sipush hX (pc := 126) dX8_readsLine_126 (by decide) ?_
      obtain ⟨v26, m25, e_m25, h⟩ := kb2_e h
      refine qn_callVi hX (pc := 129) [.int (iZ 1), .int (iZ 0), .int (iZ 1000)] [.int (iZ 1000), .int (iZ 0), .int (iZ 1)] 3 dX8_readsLine_129 gX8_readsLine_X8_reads rfl dd_X8_reads ⟨rfl, rfl⟩ rfl rfl (by decide) k_x0 rfl rfl hR_m6 (k_X8_reads (xl X) hT k_x0 (by decide) (by decide) (by decide) e_m25) (fun r_v26 hR_m25 => ?_)
      exact qn_zret hX (pc := 132) dX8_readsLine_132 hE hR_m25 r_v26 (Option.some.inj h)
    have h := ite_f h c24
    by_cases c27 : x1 = 5
    · have h := ite_t h c27
      refine qn_tswIn hX (pc := 41) r_x1 133 dX8_readsLine_41 5 c27 (by decide) rfl (by decide) ?_
      refine qn_aload_n hX (pc := 133) dX8_readsLine_133 0 rfl rfl ?_
      refine qn_iconst hX (pc := 134) dX8_readsLine_134 ?_
      refine qn_iconst hX (pc := 135) dX8_readsLine_135 ?_
      refine qn_bipush hX (pc := 136) dX8_readsLine_136 (by decide) ?_
      obtain ⟨v29, m28, e_m28, h⟩ := kb2_e h
      refine qn_callVi hX (pc := 138) [.int (iZ 1), .int (iZ 1), .int (iZ 50)] [.int (iZ 50), .int (iZ 1), .int (iZ 1)] 3 dX8_readsLine_138 gX8_readsLine_X8_reads rfl dd_X8_reads ⟨rfl, rfl⟩ rfl rfl (by decide) k_x0 rfl rfl hR_m6 (k_X8_reads (xl X) hT k_x0 (by decide) (by decide) (by decide) e_m28) (fun r_v29 hR_m28 => ?_)
      exact qn_zret hX (pc := 141) dX8_readsLine_141 hE hR_m28 r_v29 (Option.some.inj h)
    have h := ite_f h c27
    refine qn_tswOut hX (pc := 41) r_x1 142 dX8_readsLine_41 (by omega) (by decide) ?_
    refine qn_iconst hX (pc := 142) dX8_readsLine_142 ?_
    exact qn_zret hX (pc := 143) dX8_readsLine_143 hE hR_m6 (by decide) (Option.some.inj h)
  · have h := ite_t h c3
    refine qn_iconst hX (pc := 22) dX8_readsLine_22 ?_
    exact qn_zret hX (pc := 23) dX8_readsLine_23 hE hR_m1 (by decide) (Option.some.inj h)
set_option maxHeartbeats 4000000 in
set_option maxRecDepth 20000 in
theorem w_X8_readsLine {X : qB} {N : Nat} (hX : qOk X cX8_readsLine RX8 2 (some .boolean) wsX8_readsLine 4 90) {r : Int} {nu : qM} (hE : xr X = some (.int (iZ r)) ∧ (in01 r → xΦ X) ∧ xμ X = nu) 
    {x0 : Nat} (k_x0 : gK (xG X) x0 = 9) {m0 : qM} (hR_m0 : qR (xG X) m0)
    (h : f_X8_readsLine N (xG X)  x0 m0 = some (r, nu)) : qN X 2 0 [(0, .ref x0)] [] m0 := by
  have hT := hX.T
  unfold f_X8_readsLine at h
  refine qn_aload_n hX (pc := 0) dX8_readsLine_0 0 rfl rfl ?_
  obtain ⟨v2, m1, e_m1, h⟩ := kb2_e h
  refine qn_callVi hX (pc := 1) [] [] 0 dX8_readsLine_1 gX8_readsLine_X8_kindHere rfl dd_X8_kindHere ⟨rfl, rfl⟩ rfl rfl (by decide) k_x0 rfl rfl hR_m0 (k_X8_kindHere (xl X) hT k_x0 e_m1) (fun r_v2 hR_m1 => ?_)
  refine qn_istore_n hX (pc := 4) (ls' := [(1, .int (iZ v2)), (0, .ref x0)]) dX8_readsLine_4 rfl rfl rfl ?_
  refine qn_aload_n hX (pc := 5) dX8_readsLine_5 1 rfl rfl ?_
  refine qn_iload_n hX (pc := 6) dX8_readsLine_6 0 rfl rfl ?_
  refine qn_if_lt hX (pc := 7) r_v2 14 dX8_readsLine_7 (by decide) (fun c3 => ?_) (fun c3 => ?_)
  · have h := ite_t h c3
    refine qn_iconst hX (pc := 14) dX8_readsLine_14 ?_
    refine qn_sub (ls' := [(0, .ref x0), (1, .int (iZ v2))]) [1, 0] rfl ?_
    exact w_X8_readsLine_15 hX hE  k_x0 r_v2 k_x0 (by decide) hR_m1 h
  · have h := ite_f h c3
    refine qn_iconst hX (pc := 10) dX8_readsLine_10 ?_
    refine qn_goto hX (pc := 11) 15 dX8_readsLine_11 (by decide) ?_
    refine qn_sub (ls' := [(0, .ref x0), (1, .int (iZ v2))]) [1, 0] rfl ?_
    exact w_X8_readsLine_15 hX hE  k_x0 r_v2 k_x0 (by decide) hR_m1 h
theorem k_X8_readsLine (l : Launch) {G : qG} (hT : qT G) {N : Nat} {x0 : Nat} (k_x0 : gK G x0 = 9) {m0 : qM} {r : Int} {nu : qM} (h : f_X8_readsLine N G x0 m0 = some (r, nu)) : qC l yX8_readsLine wsX8_readsLine 4 90 G [.ref x0] m0 (some (.int (iZ r))) (in01 r) nu := by
  refine qn_start (hy := by decide) hT (hw := rfl) (hn := Nat.le_of_ble_eq_true rfl) ?_
  intro X h1 h2 h3 h4 hX hR
  subst h4
  exact w_X8_readsLine hX ⟨h1, fun q => h2 ▸ q, h3⟩ k_x0 hR h
theorem dd_X8_readsLine : yX8_readsLine.cls = RX8 ∧ yX8_readsLine.cls ≠ "java/lang/invoke/MethodHandle" ∧ yX8_readsLine.cls ≠ "java/lang/invoke/VarHandle" ∧ (parseMethodDescriptor yX8_readsLine.desc).map (fun d => d.parameters.length) = some 0 := by decide +kernel
