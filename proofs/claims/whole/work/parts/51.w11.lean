-- ProRataMarketModel.shares
theorem hi_X8_shares_8 : ∀ w ∈ wsX80, w ∈ wsX8_shares := fun w h => List.mem_cons_of_mem _ (List.mem_append_right _ h)
theorem fd_X8_shares_35 : qFd RX8 wsX8_shares 35 8 10 1 810 := ⟨RX8, TX8, 32, _, rfl, hi_X8_shares_8, by decide, (by decide +kernel : Cond.fieldLink RX8 35 (TX8 10).1 (TX8 10).2.1 (TX8 10).2.2.1 ∈ wsX8_shares), rfl, rfl, by decide⟩
theorem fd_X8_shares_68 : qFd RX8 wsX8_shares 68 8 5 0 805 := ⟨RX8, TX8, 32, _, rfl, hi_X8_shares_8, by decide, (by decide +kernel : Cond.fieldLink RX8 68 (TX8 5).1 (TX8 5).2.1 (TX8 5).2.2.1 ∈ wsX8_shares), rfl, rfl, by decide⟩
theorem fd_X8_shares_26 : qFd RX8 wsX8_shares 26 8 7 1 807 := ⟨RX8, TX8, 32, _, rfl, hi_X8_shares_8, by decide, (by decide +kernel : Cond.fieldLink RX8 26 (TX8 7).1 (TX8 7).2.1 (TX8 7).2.2.1 ∈ wsX8_shares), rfl, rfl, by decide⟩
theorem fd_X8_shares_29 : qFd RX8 wsX8_shares 29 8 8 1 808 := ⟨RX8, TX8, 32, _, rfl, hi_X8_shares_8, by decide, (by decide +kernel : Cond.fieldLink RX8 29 (TX8 8).1 (TX8 8).2.1 (TX8 8).2.2.1 ∈ wsX8_shares), rfl, rfl, by decide⟩
theorem fd_X8_shares_32 : qFd RX8 wsX8_shares 32 8 9 1 809 := ⟨RX8, TX8, 32, _, rfl, hi_X8_shares_8, by decide, (by decide +kernel : Cond.fieldLink RX8 32 (TX8 9).1 (TX8 9).2.1 (TX8 9).2.2.1 ∈ wsX8_shares), rfl, rfl, by decide⟩
theorem fd_X8_shares_7 : qFd RX8 wsX8_shares 7 8 0 1 800 := ⟨RX8, TX8, 32, _, rfl, hi_X8_shares_8, by decide, (by decide +kernel : Cond.fieldLink RX8 7 (TX8 0).1 (TX8 0).2.1 (TX8 0).2.2.1 ∈ wsX8_shares), rfl, rfl, by decide⟩
set_option maxHeartbeats 4000000 in
set_option maxRecDepth 20000 in
theorem w_X8_shares_292 {X : qB} {N : Nat} (hX : qOk X cX8_shares RX8 11 none wsX8_shares 0 0) {r : qM} (hE : xr X = none ∧ (True → xΦ X) ∧ xμ X = r) {k238 : (Nat → Int → Int → qM → Option (qM))} (hk238 : ∀ (x0 : Nat) (x4 : Int) (x9 : Int) (m0 : qM), gK (xG X) x0 = 9 → in32 x4 → in32 x9 → qR (xG X) m0 → k238 x0 x4 x9 m0 = some r → qN X 11 238 [(0, .ref x0), (4, .int (iZ x4)), (9, .int (iZ x9))] [] m0)
    {x0 : Nat} {x4 : Int} {x9 : Int} {s0 : Nat} {s1 : Int} {s2 : Int} (k_x0 : gK (xG X) x0 = 9) (r_x4 : in32 x4) (r_x9 : in32 x9) (k_s0 : gK (xG X) s0 = 1070) (r_s1 : in32 s1) (r_s2 : in32 s2) {m0 : qM} (hR_m0 : qR (xG X) m0)
    (h : f_X8_shares_292 N (xG X) k238 x0 x4 x9 s0 s1 s2 m0 = some r) : qN X 11 292 [(0, .ref x0), (4, .int (iZ x4)), (9, .int (iZ x9))] [.int (iZ s2), .int (iZ s1), .ref s0] m0 := by
  have hT := hX.T
  unfold f_X8_shares_292 at h
  obtain ⟨m1, e_m1, b_m1, h⟩ := wrA_e h
  refine qn_iast hX (pc := 292) 70 dX8_shares_292 k_s0 (by decide) b_m1 hR_m0 r_s2 e_m1 (fun hR_m1 => ?_) 
  refine qn_iload hX (pc := 293) dX8_shares_293 1 rfl ?_
  refine qn_aload_n hX (pc := 295) dX8_shares_295 0 rfl rfl ?_
  refine qn_getR hX (pc := 296) fd_X8_shares_35 dX8_shares_296 k_x0 ?_
  refine qn_iload hX (pc := 299) dX8_shares_299 2 rfl ?_
  obtain ⟨v2, e_v2, b_v2, h⟩ := rdA_e h
  have r_v2 : in32 v2 := by rw [e_v2]; exact hR_m1.a (n := 70) _ (qr_810 hT k_x0) (by decide)
  refine qn_iald hX (pc := 301) 70 dX8_shares_301 (qr_810 hT k_x0) (by decide) b_v2 e_v2 ?_
  obtain ⟨v3, e_v3, r_v3, h⟩ := ckI_e h
  refine qn_isub hX (pc := 302) dX8_shares_302 e_v3 ?_
  refine qn_istore hX (pc := 303) (ls' := [(4, .int (iZ v3)), (0, .ref x0), (9, .int (iZ x9))]) dX8_shares_303 rfl rfl ?_
  obtain ⟨v4, e_v4, r_v4, h⟩ := ckI_e h
  refine qn_iinc hX (pc := 305) (ls' := [(9, .int (iZ v4)), (4, .int (iZ v3)), (0, .ref x0)]) dX8_shares_305 2 rfl e_v4 rfl rfl ?_
  refine qn_goto hX (pc := 308) 238 dX8_shares_308 (by decide) ?_
  refine qn_sub (ls' := [(0, .ref x0), (4, .int (iZ v3)), (9, .int (iZ v4))]) [2, 1, 0] rfl ?_
  exact hk238 x0 v3 v4 m1 k_x0 r_v3 r_v4 hR_m1 h
set_option maxHeartbeats 4000000 in
set_option maxRecDepth 20000 in
theorem w_X8_shares_238 {X : qB} {N : Nat} (hX : qOk X cX8_shares RX8 11 none wsX8_shares 0 0) {r : qM} (hE : xr X = none ∧ (True → xΦ X) ∧ xμ X = r) {k238 : (Nat → Int → Int → qM → Option (qM))} (hk238 : ∀ (x0 : Nat) (x4 : Int) (x9 : Int) (m0 : qM), gK (xG X) x0 = 9 → in32 x4 → in32 x9 → qR (xG X) m0 → k238 x0 x4 x9 m0 = some r → qN X 11 238 [(0, .ref x0), (4, .int (iZ x4)), (9, .int (iZ x9))] [] m0)
    {x0 : Nat} {x4 : Int} {x9 : Int} (k_x0 : gK (xG X) x0 = 9) (r_x4 : in32 x4) (r_x9 : in32 x9) {m0 : qM} (hR_m0 : qR (xG X) m0)
    (h : f_X8_shares_238 N (xG X) k238 x0 x4 x9 m0 = some r) : qN X 11 238 [(0, .ref x0), (4, .int (iZ x4)), (9, .int (iZ x9))] [] m0 := by
  have hT := hX.T
  unfold f_X8_shares_238 at h
  refine qn_iload hX (pc := 238) dX8_shares_238 2 rfl ?_
  refine qn_aload_n hX (pc := 240) dX8_shares_240 0 rfl rfl ?_
  refine qn_getI hX (pc := 241) fd_X8_shares_68 dX8_shares_241 k_x0 ?_
  refine qn_icmp_ge hX (pc := 244) r_x9 (hR_m0.i 805 _ rfl) 311 dX8_shares_244 (by decide) (fun c1 => ?_) (fun c1 => ?_)
  · have h := ite_f h c1
    exact qn_vret hX (pc := 311) dX8_shares_311 hE hR_m0 (Option.some.inj h)
  · have h := ite_t h c1
    refine qn_aload_n hX (pc := 247) dX8_shares_247 0 rfl rfl ?_
    refine qn_getR hX (pc := 248) fd_X8_shares_26 dX8_shares_248 k_x0 ?_
    refine qn_iload hX (pc := 251) dX8_shares_251 2 rfl ?_
    obtain ⟨v2, e_v2, b_v2, h⟩ := rdA_e h
    have r_v2 : in32 v2 := by rw [e_v2]; exact hR_m0.a (n := 70) _ (qr_807 hT k_x0) (by decide)
    refine qn_iald hX (pc := 253) 70 dX8_shares_253 (qr_807 hT k_x0) (by decide) b_v2 e_v2 ?_
    refine qn_aload_n hX (pc := 254) dX8_shares_254 0 rfl rfl ?_
    refine qn_getR hX (pc := 255) fd_X8_shares_29 dX8_shares_255 k_x0 ?_
    refine qn_iload hX (pc := 258) dX8_shares_258 2 rfl ?_
    obtain ⟨v3, e_v3, b_v3, h⟩ := rdA_e h
    have r_v3 : in32 v3 := by rw [e_v3]; exact hR_m0.a (n := 70) _ (qr_808 hT k_x0) (by decide)
    refine qn_iald hX (pc := 260) 70 dX8_shares_260 (qr_808 hT k_x0) (by decide) b_v3 e_v3 ?_
    obtain ⟨v4, e_v4, r_v4, h⟩ := ckI_e h
    refine qn_isub hX (pc := 261) dX8_shares_261 e_v4 ?_
    refine qn_aload_n hX (pc := 262) dX8_shares_262 0 rfl rfl ?_
    refine qn_getR hX (pc := 263) fd_X8_shares_32 dX8_shares_263 k_x0 ?_
    refine qn_iload hX (pc := 266) dX8_shares_266 2 rfl ?_
    obtain ⟨v5, e_v5, b_v5, h⟩ := rdA_e h
    have r_v5 : in32 v5 := by rw [e_v5]; exact hR_m0.a (n := 70) _ (qr_809 hT k_x0) (by decide)
    refine qn_iald hX (pc := 268) 70 dX8_shares_268 (qr_809 hT k_x0) (by decide) b_v5 e_v5 ?_
    obtain ⟨v6, e_v6, r_v6, h⟩ := ckI_e h
    refine qn_isub hX (pc := 269) dX8_shares_269 e_v6 ?_
    refine qn_istore hX (pc := 270) (ls' := [(10, .int (iZ v6)), (0, .ref x0), (4, .int (iZ x4)), (9, .int (iZ x9))]) dX8_shares_270 rfl rfl ?_
    refine qn_aload_n hX (pc := 272) dX8_shares_272 1 rfl rfl ?_
    refine qn_getR hX (pc := 273) fd_X8_shares_35 dX8_shares_273 k_x0 ?_
    refine qn_iload hX (pc := 276) dX8_shares_276 3 rfl ?_
    refine qn_iload hX (pc := 278) dX8_shares_278 2 rfl ?_
    refine qn_iload hX (pc := 280) dX8_shares_280 0 rfl ?_
    refine qn_icmp_ge hX (pc := 282) r_x4 r_v6 290 dX8_shares_282 (by decide) (fun c7 => ?_) (fun c7 => ?_)
    · have h := ite_f h c7
      refine qn_iload hX (pc := 290) dX8_shares_290 0 rfl ?_
      refine qn_sub (ls' := [(0, .ref x0), (4, .int (iZ x4)), (9, .int (iZ x9))]) [1, 2, 3] rfl ?_
      exact w_X8_shares_292 hX hE hk238 k_x0 r_x4 r_x9 (qr_810 hT k_x0) r_x9 r_v6 hR_m0 h
    · have h := ite_t h c7
      refine qn_iload hX (pc := 285) dX8_shares_285 2 rfl ?_
      refine qn_goto hX (pc := 287) 292 dX8_shares_287 (by decide) ?_
      refine qn_sub (ls' := [(0, .ref x0), (4, .int (iZ x4)), (9, .int (iZ x9))]) [1, 2, 3] rfl ?_
      exact w_X8_shares_292 hX hE hk238 k_x0 r_x4 r_x9 (qr_810 hT k_x0) r_x9 r_x4 hR_m0 h
set_option maxHeartbeats 4000000 in
set_option maxRecDepth 20000 in
theorem w_X8_shares_L238 {X : qB} {N : Nat} (hX : qOk X cX8_shares RX8 11 none wsX8_shares 0 0) {r : qM} (hE : xr X = none ∧ (True → xΦ X) ∧ xμ X = r) 
    {x0 : Nat} {x4 : Int} {x9 : Int} (k_x0 : gK (xG X) x0 = 9) (r_x4 : in32 x4) (r_x9 : in32 x9) {m0 : qM} (hR_m0 : qR (xG X) m0)
    (h : f_X8_shares_L238 N (xG X)  x0 x4 x9 m0 = some r) : qN X 11 238 [(0, .ref x0), (4, .int (iZ x4)), (9, .int (iZ x9))] [] m0 := by
  unfold f_X8_shares_L238 at h
  exact qLoop_w (σ := Nat × Int × Int × qM) (P := fun p => gK (xG X) p.1 = 9 ∧ in32 p.2.1 ∧ in32 p.2.2.1 ∧ qR (xG X) p.2.2.2) (Q := fun p => qN X 11 238 [(0, .ref p.1), (4, .int (iZ p.2.1)), (9, .int (iZ p.2.2.1))] [] p.2.2.2) (fun k hrec p hp hh => w_X8_shares_238 hX hE (fun x0 x4 x9 m0 q0 q1 q2 hRm hh => hrec (x0, x4, x9, m0) ⟨q0, q1, q2, hRm⟩ hh) hp.1 hp.2.1 hp.2.2.1 hp.2.2.2 hh) N (x0, x4, x9, m0) ⟨k_x0, r_x4, r_x9, hR_m0⟩ h
set_option maxHeartbeats 4000000 in
set_option maxRecDepth 20000 in
theorem w_X8_shares_235 {X : qB} {N : Nat} (hX : qOk X cX8_shares RX8 11 none wsX8_shares 0 0) {r : qM} (hE : xr X = none ∧ (True → xΦ X) ∧ xμ X = r) 
    {x0 : Nat} {x4 : Int} (k_x0 : gK (xG X) x0 = 9) (r_x4 : in32 x4) {m0 : qM} (hR_m0 : qR (xG X) m0)
    (h : f_X8_shares_235 N (xG X)  x0 x4 m0 = some r) : qN X 11 235 [(0, .ref x0), (4, .int (iZ x4))] [] m0 := by
  have hT := hX.T
  unfold f_X8_shares_235 at h
  refine qn_iconst hX (pc := 235) dX8_shares_235 ?_
  refine qn_istore hX (pc := 236) (ls' := [(9, .int (iZ 0)), (0, .ref x0), (4, .int (iZ x4))]) dX8_shares_236 rfl rfl ?_
  refine qn_sub (ls' := [(0, .ref x0), (4, .int (iZ x4)), (9, .int (iZ 0))]) [1, 2, 0] rfl ?_
  exact w_X8_shares_L238 hX hE  k_x0 r_x4 (by decide) hR_m0 h
set_option maxHeartbeats 4000000 in
set_option maxRecDepth 20000 in
theorem w_X8_shares_216 {X : qB} {N : Nat} (hX : qOk X cX8_shares RX8 11 none wsX8_shares 0 0) {r : qM} (hE : xr X = none ∧ (True → xΦ X) ∧ xμ X = r) {k152 : (Nat → Int → Int → Int → Int → qM → Option (qM))} (hk152 : ∀ (x0 : Nat) (x4 : Int) (x5 : Int) (x7 : Int) (x9 : Int) (m0 : qM), gK (xG X) x0 = 9 → in32 x4 → in64 x5 → in64 x7 → in32 x9 → qR (xG X) m0 → k152 x0 x4 x5 x7 x9 m0 = some r → qN X 11 152 [(0, .ref x0), (4, .int (iZ x4)), (5, .long (lZ x5)), (7, .long (lZ x7)), (9, .int (iZ x9))] [] m0)
    {x0 : Nat} {x4 : Int} {x5 : Int} {x7 : Int} {x9 : Int} {s0 : Nat} {s1 : Int} {s2 : Int} (k_x0 : gK (xG X) x0 = 9) (r_x4 : in32 x4) (r_x5 : in64 x5) (r_x7 : in64 x7) (r_x9 : in32 x9) (k_s0 : gK (xG X) s0 = 1070) (r_s1 : in32 s1) (r_s2 : in32 s2) {m0 : qM} (hR_m0 : qR (xG X) m0)
    (h : f_X8_shares_216 N (xG X) k152 x0 x4 x5 x7 x9 s0 s1 s2 m0 = some r) : qN X 11 216 [(0, .ref x0), (4, .int (iZ x4)), (5, .long (lZ x5)), (7, .long (lZ x7)), (9, .int (iZ x9))] [.int (iZ s2), .int (iZ s1), .ref s0] m0 := by
  have hT := hX.T
  unfold f_X8_shares_216 at h
  obtain ⟨m1, e_m1, b_m1, h⟩ := wrA_e h
  refine qn_iast hX (pc := 216) 70 dX8_shares_216 k_s0 (by decide) b_m1 hR_m0 r_s2 e_m1 (fun hR_m1 => ?_) 
  refine qn_iload hX (pc := 217) dX8_shares_217 1 rfl ?_
  refine qn_aload_n hX (pc := 219) dX8_shares_219 0 rfl rfl ?_
  refine qn_getR hX (pc := 220) fd_X8_shares_32 dX8_shares_220 k_x0 ?_
  refine qn_iload hX (pc := 223) dX8_shares_223 4 rfl ?_
  obtain ⟨v2, e_v2, b_v2, h⟩ := rdA_e h
  have r_v2 : in32 v2 := by rw [e_v2]; exact hR_m1.a (n := 70) _ (qr_809 hT k_x0) (by decide)
  refine qn_iald hX (pc := 225) 70 dX8_shares_225 (qr_809 hT k_x0) (by decide) b_v2 e_v2 ?_
  obtain ⟨v3, e_v3, r_v3, h⟩ := ckI_e h
  refine qn_isub hX (pc := 226) dX8_shares_226 e_v3 ?_
  refine qn_istore hX (pc := 227) (ls' := [(4, .int (iZ v3)), (0, .ref x0), (5, .long (lZ x5)), (7, .long (lZ x7)), (9, .int (iZ x9))]) dX8_shares_227 rfl rfl ?_
  obtain ⟨v4, e_v4, r_v4, h⟩ := ckI_e h
  refine qn_iinc hX (pc := 229) (ls' := [(9, .int (iZ v4)), (4, .int (iZ v3)), (0, .ref x0), (5, .long (lZ x5)), (7, .long (lZ x7))]) dX8_shares_229 4 rfl e_v4 rfl rfl ?_
  refine qn_goto hX (pc := 232) 152 dX8_shares_232 (by decide) ?_
  refine qn_sub (ls' := [(0, .ref x0), (4, .int (iZ v3)), (5, .long (lZ x5)), (7, .long (lZ x7)), (9, .int (iZ v4))]) [2, 1, 3, 4, 0] rfl ?_
  exact hk152 x0 v3 x5 x7 v4 m1 k_x0 r_v3 r_x5 r_x7 r_v4 hR_m1 h
set_option maxHeartbeats 4000000 in
set_option maxRecDepth 20000 in
theorem w_X8_shares_152 {X : qB} {N : Nat} (hX : qOk X cX8_shares RX8 11 none wsX8_shares 0 0) {r : qM} (hE : xr X = none ∧ (True → xΦ X) ∧ xμ X = r) {k152 : (Nat → Int → Int → Int → Int → qM → Option (qM))} (hk152 : ∀ (x0 : Nat) (x4 : Int) (x5 : Int) (x7 : Int) (x9 : Int) (m0 : qM), gK (xG X) x0 = 9 → in32 x4 → in64 x5 → in64 x7 → in32 x9 → qR (xG X) m0 → k152 x0 x4 x5 x7 x9 m0 = some r → qN X 11 152 [(0, .ref x0), (4, .int (iZ x4)), (5, .long (lZ x5)), (7, .long (lZ x7)), (9, .int (iZ x9))] [] m0)
    {x0 : Nat} {x4 : Int} {x5 : Int} {x7 : Int} {x9 : Int} (k_x0 : gK (xG X) x0 = 9) (r_x4 : in32 x4) (r_x5 : in64 x5) (r_x7 : in64 x7) (r_x9 : in32 x9) {m0 : qM} (hR_m0 : qR (xG X) m0)
    (h : f_X8_shares_152 N (xG X) k152 x0 x4 x5 x7 x9 m0 = some r) : qN X 11 152 [(0, .ref x0), (4, .int (iZ x4)), (5, .long (lZ x5)), (7, .long (lZ x7)), (9, .int (iZ x9))] [] m0 := by
  have hT := hX.T
  unfold f_X8_shares_152 at h
  refine qn_iload hX (pc := 152) dX8_shares_152 4 rfl ?_
  refine qn_aload_n hX (pc := 154) dX8_shares_154 0 rfl rfl ?_
  refine qn_getI hX (pc := 155) fd_X8_shares_68 dX8_shares_155 k_x0 ?_
  refine qn_icmp_ge hX (pc := 158) r_x9 (hR_m0.i 805 _ rfl) 235 dX8_shares_158 (by decide) (fun c1 => ?_) (fun c1 => ?_)
  · have h := ite_f h c1
    refine qn_sub (ls' := [(0, .ref x0), (4, .int (iZ x4))]) [0, 1] rfl ?_
    exact w_X8_shares_235 hX hE  k_x0 r_x4 hR_m0 h
  · have h := ite_t h c1
    refine qn_lload hX (pc := 161) dX8_shares_161 2 rfl ?_
    refine qn_lconst hX (pc := 163) 0 dX8_shares_163 (by decide) ?_
    refine qn_lcmp hX (pc := 164) r_x5 (by decide) dX8_shares_164 ?_
    refine qn_if_le hX (pc := 165) (sgn_in _ _) 235 dX8_shares_165 (by decide) (fun c2 => ?_) (fun c2 => ?_)
    · have h := ite_f h (fun q => c2 ((sgn_gt _ _).mpr q))
      refine qn_sub (ls' := [(0, .ref x0), (4, .int (iZ x4))]) [0, 1] rfl ?_
      exact w_X8_shares_235 hX hE  k_x0 r_x4 hR_m0 h
    · have h := ite_t h ((sgn_gt _ _).mp c2)
      refine qn_lload hX (pc := 168) dX8_shares_168 3 rfl ?_
      refine qn_aload_n hX (pc := 170) dX8_shares_170 0 rfl rfl ?_
      refine qn_getR hX (pc := 171) fd_X8_shares_26 dX8_shares_171 k_x0 ?_
      refine qn_iload hX (pc := 174) dX8_shares_174 4 rfl ?_
      obtain ⟨v3, e_v3, b_v3, h⟩ := rdA_e h
      have r_v3 : in32 v3 := by rw [e_v3]; exact hR_m0.a (n := 70) _ (qr_807 hT k_x0) (by decide)
      refine qn_iald hX (pc := 176) 70 dX8_shares_176 (qr_807 hT k_x0) (by decide) b_v3 e_v3 ?_
      refine qn_aload_n hX (pc := 177) dX8_shares_177 0 rfl rfl ?_
      refine qn_getR hX (pc := 178) fd_X8_shares_29 dX8_shares_178 k_x0 ?_
      refine qn_iload hX (pc := 181) dX8_shares_181 4 rfl ?_
      obtain ⟨v4, e_v4, b_v4, h⟩ := rdA_e h
      have r_v4 : in32 v4 := by rw [e_v4]; exact hR_m0.a (n := 70) _ (qr_808 hT k_x0) (by decide)
      refine qn_iald hX (pc := 183) 70 dX8_shares_183 (qr_808 hT k_x0) (by decide) b_v4 e_v4 ?_
      obtain ⟨v5, e_v5, r_v5, h⟩ := ckI_e h
      refine qn_isub hX (pc := 184) dX8_shares_184 e_v5 ?_
      refine qn_i2l hX (pc := 185) r_v5 dX8_shares_185 ?_
      obtain ⟨v6, e_v6, r_v6, h⟩ := ckJ_e h
      refine qn_lmul hX (pc := 186) dX8_shares_186 e_v6 ?_
      refine qn_lload hX (pc := 187) dX8_shares_187 2 rfl ?_
      obtain ⟨n_v7, h⟩ := ckD_e h
      obtain ⟨v7, e_v7, r_v7, h⟩ := ckJ_e h
      refine qn_ldiv hX (pc := 189) r_v6 r_x5 n_v7 dX8_shares_189 e_v7 ?_
      obtain ⟨v8, e_v8, r_v8, h⟩ := ckI_e h
      refine qn_l2iv hX (pc := 190) dX8_shares_190 e_v8 ?_
      refine qn_istore hX (pc := 191) (ls' := [(10, .int (iZ v8)), (0, .ref x0), (4, .int (iZ x4)), (5, .long (lZ x5)), (7, .long (lZ x7)), (9, .int (iZ x9))]) dX8_shares_191 rfl rfl ?_
      refine qn_aload_n hX (pc := 193) dX8_shares_193 1 rfl rfl ?_
      refine qn_getR hX (pc := 194) fd_X8_shares_32 dX8_shares_194 k_x0 ?_
      refine qn_iload hX (pc := 197) dX8_shares_197 5 rfl ?_
      refine qn_iload hX (pc := 199) dX8_shares_199 0 rfl ?_
      refine qn_aload_n hX (pc := 201) dX8_shares_201 1 rfl rfl ?_
      refine qn_getR hX (pc := 202) fd_X8_shares_7 dX8_shares_202 k_x0 ?_
      refine qn_iconst hX (pc := 205) dX8_shares_205 ?_
      refine qn_iald hX (pc := 206) (v := gA m0 (gR (xG X) 800 x0) 1) 684 dX8_shares_206 (qr_800 hT k_x0) (by decide) (by decide) rfl ?_
      refine qn_icmp_ge hX (pc := 207) r_v8 (hR_m0.a (n := 684) _ (qr_800 hT k_x0) (by decide)) 214 dX8_shares_207 (by decide) (fun c9 => ?_) (fun c9 => ?_)
      · have h := ite_f h c9
        refine qn_iload hX (pc := 214) dX8_shares_214 0 rfl ?_
        refine qn_sub (ls' := [(0, .ref x0), (4, .int (iZ x4)), (5, .long (lZ x5)), (7, .long (lZ x7)), (9, .int (iZ x9))]) [1, 2, 3, 4, 5] rfl ?_
        exact w_X8_shares_216 hX hE hk152 k_x0 r_x4 r_x5 r_x7 r_x9 (qr_809 hT k_x0) r_x9 r_v8 hR_m0 h
      · have h := ite_t h c9
        refine qn_iconst hX (pc := 210) dX8_shares_210 ?_
        refine qn_goto hX (pc := 211) 216 dX8_shares_211 (by decide) ?_
        refine qn_sub (ls' := [(0, .ref x0), (4, .int (iZ x4)), (5, .long (lZ x5)), (7, .long (lZ x7)), (9, .int (iZ x9))]) [1, 2, 3, 4, 5] rfl ?_
        exact w_X8_shares_216 hX hE hk152 k_x0 r_x4 r_x5 r_x7 r_x9 (qr_809 hT k_x0) r_x9 (by decide) hR_m0 h
set_option maxHeartbeats 4000000 in
set_option maxRecDepth 20000 in
theorem w_X8_shares_L152 {X : qB} {N : Nat} (hX : qOk X cX8_shares RX8 11 none wsX8_shares 0 0) {r : qM} (hE : xr X = none ∧ (True → xΦ X) ∧ xμ X = r) 
    {x0 : Nat} {x4 : Int} {x5 : Int} {x7 : Int} {x9 : Int} (k_x0 : gK (xG X) x0 = 9) (r_x4 : in32 x4) (r_x5 : in64 x5) (r_x7 : in64 x7) (r_x9 : in32 x9) {m0 : qM} (hR_m0 : qR (xG X) m0)
    (h : f_X8_shares_L152 N (xG X)  x0 x4 x5 x7 x9 m0 = some r) : qN X 11 152 [(0, .ref x0), (4, .int (iZ x4)), (5, .long (lZ x5)), (7, .long (lZ x7)), (9, .int (iZ x9))] [] m0 := by
  unfold f_X8_shares_L152 at h
  exact qLoop_w (σ := Nat × Int × Int × Int × Int × qM) (P := fun p => gK (xG X) p.1 = 9 ∧ in32 p.2.1 ∧ in64 p.2.2.1 ∧ in64 p.2.2.2.1 ∧ in32 p.2.2.2.2.1 ∧ qR (xG X) p.2.2.2.2.2) (Q := fun p => qN X 11 152 [(0, .ref p.1), (4, .int (iZ p.2.1)), (5, .long (lZ p.2.2.1)), (7, .long (lZ p.2.2.2.1)), (9, .int (iZ p.2.2.2.2.1))] [] p.2.2.2.2.2) (fun k hrec p hp hh => w_X8_shares_152 hX hE (fun x0 x4 x5 x7 x9 m0 q0 q1 q2 q3 q4 hRm hh => hrec (x0, x4, x5, x7, x9, m0) ⟨q0, q1, q2, q3, q4, hRm⟩ hh) hp.1 hp.2.1 hp.2.2.1 hp.2.2.2.1 hp.2.2.2.2.1 hp.2.2.2.2.2 hh) N (x0, x4, x5, x7, x9, m0) ⟨k_x0, r_x4, r_x5, r_x7, r_x9, hR_m0⟩ h
set_option maxHeartbeats 4000000 in
set_option maxRecDepth 20000 in
theorem w_X8_shares_108 {X : qB} {N : Nat} (hX : qOk X cX8_shares RX8 11 none wsX8_shares 0 0) {r : qM} (hE : xr X = none ∧ (True → xΦ X) ∧ xμ X = r) {k108 : (Nat → Int → Int → Int → qM → Option (qM))} (hk108 : ∀ (x0 : Nat) (x4 : Int) (x5 : Int) (x7 : Int) (m0 : qM), gK (xG X) x0 = 9 → in32 x4 → in64 x5 → in32 x7 → qR (xG X) m0 → k108 x0 x4 x5 x7 m0 = some r → qN X 11 108 [(0, .ref x0), (4, .int (iZ x4)), (5, .long (lZ x5)), (7, .int (iZ x7))] [] m0)
    {x0 : Nat} {x4 : Int} {x5 : Int} {x7 : Int} (k_x0 : gK (xG X) x0 = 9) (r_x4 : in32 x4) (r_x5 : in64 x5) (r_x7 : in32 x7) {m0 : qM} (hR_m0 : qR (xG X) m0)
    (h : f_X8_shares_108 N (xG X) k108 x0 x4 x5 x7 m0 = some r) : qN X 11 108 [(0, .ref x0), (4, .int (iZ x4)), (5, .long (lZ x5)), (7, .int (iZ x7))] [] m0 := by
  have hT := hX.T
  unfold f_X8_shares_108 at h
  refine qn_iload hX (pc := 108) dX8_shares_108 3 rfl ?_
  refine qn_aload_n hX (pc := 110) dX8_shares_110 0 rfl rfl ?_
  refine qn_getI hX (pc := 111) fd_X8_shares_68 dX8_shares_111 k_x0 ?_
  refine qn_icmp_ge hX (pc := 114) r_x7 (hR_m0.i 805 _ rfl) 144 dX8_shares_114 (by decide) (fun c1 => ?_) (fun c1 => ?_)
  · have h := ite_f h c1
    refine qn_iload hX (pc := 144) dX8_shares_144 1 rfl ?_
    refine qn_i2l hX (pc := 146) r_x4 dX8_shares_146 ?_
    refine qn_lstore hX (pc := 147) (ls' := [(7, .long (lZ x4)), (0, .ref x0), (4, .int (iZ x4)), (5, .long (lZ x5))]) dX8_shares_147 rfl rfl ?_
    refine qn_iconst hX (pc := 149) dX8_shares_149 ?_
    refine qn_istore hX (pc := 150) (ls' := [(9, .int (iZ 0)), (7, .long (lZ x4)), (0, .ref x0), (4, .int (iZ x4)), (5, .long (lZ x5))]) dX8_shares_150 rfl rfl ?_
    refine qn_sub (ls' := [(0, .ref x0), (4, .int (iZ x4)), (5, .long (lZ x5)), (7, .long (lZ x4)), (9, .int (iZ 0))]) [2, 3, 4, 1, 0] rfl ?_
    exact w_X8_shares_L152 hX hE  k_x0 r_x4 r_x5 (in32.l r_x4) (by decide) hR_m0 h
  · have h := ite_t h c1
    refine qn_lload hX (pc := 117) dX8_shares_117 2 rfl ?_
    refine qn_aload_n hX (pc := 119) dX8_shares_119 0 rfl rfl ?_
    refine qn_getR hX (pc := 120) fd_X8_shares_26 dX8_shares_120 k_x0 ?_
    refine qn_iload hX (pc := 123) dX8_shares_123 3 rfl ?_
    obtain ⟨v2, e_v2, b_v2, h⟩ := rdA_e h
    have r_v2 : in32 v2 := by rw [e_v2]; exact hR_m0.a (n := 70) _ (qr_807 hT k_x0) (by decide)
    refine qn_iald hX (pc := 125) 70 dX8_shares_125 (qr_807 hT k_x0) (by decide) b_v2 e_v2 ?_
    refine qn_aload_n hX (pc := 126) dX8_shares_126 0 rfl rfl ?_
    refine qn_getR hX (pc := 127) fd_X8_shares_29 dX8_shares_127 k_x0 ?_
    refine qn_iload hX (pc := 130) dX8_shares_130 3 rfl ?_
    obtain ⟨v3, e_v3, b_v3, h⟩ := rdA_e h
    have r_v3 : in32 v3 := by rw [e_v3]; exact hR_m0.a (n := 70) _ (qr_808 hT k_x0) (by decide)
    refine qn_iald hX (pc := 132) 70 dX8_shares_132 (qr_808 hT k_x0) (by decide) b_v3 e_v3 ?_
    obtain ⟨v4, e_v4, r_v4, h⟩ := ckI_e h
    refine qn_isub hX (pc := 133) dX8_shares_133 e_v4 ?_
    refine qn_i2l hX (pc := 134) r_v4 dX8_shares_134 ?_
    obtain ⟨v5, e_v5, r_v5, h⟩ := ckJ_e h
    refine qn_ladd hX (pc := 135) dX8_shares_135 e_v5 ?_
    refine qn_lstore hX (pc := 136) (ls' := [(5, .long (lZ v5)), (0, .ref x0), (4, .int (iZ x4)), (7, .int (iZ x7))]) dX8_shares_136 rfl rfl ?_
    obtain ⟨v6, e_v6, r_v6, h⟩ := ckI_e h
    refine qn_iinc hX (pc := 138) (ls' := [(7, .int (iZ v6)), (5, .long (lZ v5)), (0, .ref x0), (4, .int (iZ x4))]) dX8_shares_138 3 rfl e_v6 rfl rfl ?_
    refine qn_goto hX (pc := 141) 108 dX8_shares_141 (by decide) ?_
    refine qn_sub (ls' := [(0, .ref x0), (4, .int (iZ x4)), (5, .long (lZ v5)), (7, .int (iZ v6))]) [2, 3, 1, 0] rfl ?_
    exact hk108 x0 x4 v5 v6 m0 k_x0 r_x4 r_v5 r_v6 hR_m0 h
set_option maxHeartbeats 4000000 in
set_option maxRecDepth 20000 in
theorem w_X8_shares_L108 {X : qB} {N : Nat} (hX : qOk X cX8_shares RX8 11 none wsX8_shares 0 0) {r : qM} (hE : xr X = none ∧ (True → xΦ X) ∧ xμ X = r) 
    {x0 : Nat} {x4 : Int} {x5 : Int} {x7 : Int} (k_x0 : gK (xG X) x0 = 9) (r_x4 : in32 x4) (r_x5 : in64 x5) (r_x7 : in32 x7) {m0 : qM} (hR_m0 : qR (xG X) m0)
    (h : f_X8_shares_L108 N (xG X)  x0 x4 x5 x7 m0 = some r) : qN X 11 108 [(0, .ref x0), (4, .int (iZ x4)), (5, .long (lZ x5)), (7, .int (iZ x7))] [] m0 := by
  unfold f_X8_shares_L108 at h
  exact qLoop_w (σ := Nat × Int × Int × Int × qM) (P := fun p => gK (xG X) p.1 = 9 ∧ in32 p.2.1 ∧ in64 p.2.2.1 ∧ in32 p.2.2.2.1 ∧ qR (xG X) p.2.2.2.2) (Q := fun p => qN X 11 108 [(0, .ref p.1), (4, .int (iZ p.2.1)), (5, .long (lZ p.2.2.1)), (7, .int (iZ p.2.2.2.1))] [] p.2.2.2.2) (fun k hrec p hp hh => w_X8_shares_108 hX hE (fun x0 x4 x5 x7 m0 q0 q1 q2 q3 hRm hh => hrec (x0, x4, x5, x7, m0) ⟨q0, q1, q2, q3, hRm⟩ hh) hp.1 hp.2.1 hp.2.2.1 hp.2.2.2.1 hp.2.2.2.2 hh) N (x0, x4, x5, x7, m0) ⟨k_x0, r_x4, r_x5, r_x7, hR_m0⟩ h
set_option maxHeartbeats 4000000 in
set_option maxRecDepth 20000 in
theorem w_X8_shares_102 {X : qB} {N : Nat} (hX : qOk X cX8_shares RX8 11 none wsX8_shares 0 0) {r : qM} (hE : xr X = none ∧ (True → xΦ X) ∧ xμ X = r) 
    {x0 : Nat} {x4 : Int} (k_x0 : gK (xG X) x0 = 9) (r_x4 : in32 x4) {m0 : qM} (hR_m0 : qR (xG X) m0)
    (h : f_X8_shares_102 N (xG X)  x0 x4 m0 = some r) : qN X 11 102 [(0, .ref x0), (4, .int (iZ x4))] [] m0 := by
  have hT := hX.T
  unfold f_X8_shares_102 at h
  refine qn_lconst hX (pc := 102) 0 dX8_shares_102 (by decide) ?_
  refine qn_lstore hX (pc := 103) (ls' := [(5, .long (lZ 0)), (0, .ref x0), (4, .int (iZ x4))]) dX8_shares_103 rfl rfl ?_
  refine qn_iconst hX (pc := 105) dX8_shares_105 ?_
  refine qn_istore hX (pc := 106) (ls' := [(7, .int (iZ 0)), (5, .long (lZ 0)), (0, .ref x0), (4, .int (iZ x4))]) dX8_shares_106 rfl rfl ?_
  refine qn_sub (ls' := [(0, .ref x0), (4, .int (iZ x4)), (5, .long (lZ 0)), (7, .int (iZ 0))]) [2, 3, 1, 0] rfl ?_
  exact w_X8_shares_L108 hX hE  k_x0 r_x4 (by decide) (by decide) hR_m0 h
set_option maxHeartbeats 4000000 in
set_option maxRecDepth 20000 in
theorem w_X8_shares_90 {X : qB} {N : Nat} (hX : qOk X cX8_shares RX8 11 none wsX8_shares 0 0) {r : qM} (hE : xr X = none ∧ (True → xΦ X) ∧ xμ X = r) 
    {x0 : Nat} {x2 : Int} {x4 : Int} {s0 : Nat} {s1 : Int} {s2 : Int} (k_x0 : gK (xG X) x0 = 9) (r_x2 : in32 x2) (r_x4 : in32 x4) (k_s0 : gK (xG X) s0 = 1070) (r_s1 : in32 s1) (r_s2 : in32 s2) {m0 : qM} (hR_m0 : qR (xG X) m0)
    (h : f_X8_shares_90 N (xG X)  x0 x2 x4 s0 s1 s2 m0 = some r) : qN X 11 90 [(0, .ref x0), (2, .int (iZ x2)), (4, .int (iZ x4))] [.int (iZ s2), .int (iZ s1), .ref s0] m0 := by
  have hT := hX.T
  unfold f_X8_shares_90 at h
  obtain ⟨m1, e_m1, b_m1, h⟩ := wrA_e h
  refine qn_iast hX (pc := 90) 70 dX8_shares_90 k_s0 (by decide) b_m1 hR_m0 r_s2 e_m1 (fun hR_m1 => ?_) 
  refine qn_iload hX (pc := 91) dX8_shares_91 2 rfl ?_
  refine qn_aload_n hX (pc := 93) dX8_shares_93 0 rfl rfl ?_
  refine qn_getR hX (pc := 94) fd_X8_shares_29 dX8_shares_94 k_x0 ?_
  refine qn_iload_n hX (pc := 97) dX8_shares_97 1 rfl rfl ?_
  obtain ⟨v2, e_v2, b_v2, h⟩ := rdA_e h
  have r_v2 : in32 v2 := by rw [e_v2]; exact hR_m1.a (n := 70) _ (qr_808 hT k_x0) (by decide)
  refine qn_iald hX (pc := 98) 70 dX8_shares_98 (qr_808 hT k_x0) (by decide) b_v2 e_v2 ?_
  obtain ⟨v3, e_v3, r_v3, h⟩ := ckI_e h
  refine qn_isub hX (pc := 99) dX8_shares_99 e_v3 ?_
  refine qn_istore hX (pc := 100) (ls' := [(4, .int (iZ v3)), (0, .ref x0), (2, .int (iZ x2))]) dX8_shares_100 rfl rfl ?_
  refine qn_sub (ls' := [(0, .ref x0), (4, .int (iZ v3))]) [1, 0] rfl ?_
  exact w_X8_shares_102 hX hE  k_x0 r_v3 hR_m1 h
set_option maxHeartbeats 4000000 in
set_option maxRecDepth 20000 in
theorem w_X8_shares_71 {X : qB} {N : Nat} (hX : qOk X cX8_shares RX8 11 none wsX8_shares 0 0) {r : qM} (hE : xr X = none ∧ (True → xΦ X) ∧ xμ X = r) 
    {x0 : Nat} {x2 : Int} {x3 : Int} {x4 : Int} {s0 : Int} (k_x0 : gK (xG X) x0 = 9) (r_x2 : in32 x2) (r_x3 : in32 x3) (r_x4 : in32 x4) (r_s0 : in32 s0) {m0 : qM} (hR_m0 : qR (xG X) m0)
    (h : f_X8_shares_71 N (xG X)  x0 x2 x3 x4 s0 m0 = some r) : qN X 11 71 [(0, .ref x0), (2, .int (iZ x2)), (3, .int (iZ x3)), (4, .int (iZ x4))] [.int (iZ s0)] m0 := by
  have hT := hX.T
  unfold f_X8_shares_71 at h
  refine qn_istore hX (pc := 71) (ls' := [(5, .int (iZ s0)), (0, .ref x0), (2, .int (iZ x2)), (3, .int (iZ x3)), (4, .int (iZ x4))]) dX8_shares_71 rfl rfl ?_
  refine qn_aload_n hX (pc := 73) dX8_shares_73 1 rfl rfl ?_
  refine qn_getR hX (pc := 74) fd_X8_shares_29 dX8_shares_74 k_x0 ?_
  refine qn_iload_n hX (pc := 77) dX8_shares_77 2 rfl rfl ?_
  refine qn_iload hX (pc := 78) dX8_shares_78 0 rfl ?_
  refine qn_iload_n hX (pc := 80) dX8_shares_80 3 rfl rfl ?_
  refine qn_icmp_ge hX (pc := 81) r_s0 r_x3 89 dX8_shares_81 (by decide) (fun c1 => ?_) (fun c1 => ?_)
  · have h := ite_f h c1
    refine qn_iload_n hX (pc := 89) dX8_shares_89 3 rfl rfl ?_
    refine qn_sub (ls' := [(0, .ref x0), (2, .int (iZ x2)), (4, .int (iZ x4))]) [1, 2, 4] rfl ?_
    exact w_X8_shares_90 hX hE  k_x0 r_x2 r_x4 (qr_808 hT k_x0) r_x2 r_x3 hR_m0 h
  · have h := ite_t h c1
    refine qn_iload hX (pc := 84) dX8_shares_84 0 rfl ?_
    refine qn_goto hX (pc := 86) 90 dX8_shares_86 (by decide) ?_
    refine qn_sub (ls' := [(0, .ref x0), (2, .int (iZ x2)), (4, .int (iZ x4))]) [1, 2, 4] rfl ?_
    exact w_X8_shares_90 hX hE  k_x0 r_x2 r_x4 (qr_808 hT k_x0) r_x2 r_s0 hR_m0 h
set_option maxHeartbeats 4000000 in
set_option maxRecDepth 20000 in
theorem w_X8_shares_6 {X : qB} {N : Nat} (hX : qOk X cX8_shares RX8 11 none wsX8_shares 0 0) {r : qM} (hE : xr X = none ∧ (True → xΦ X) ∧ xμ X = r) {k6 : (Nat → Int → Int → Int → Int → qM → Option (qM))} (hk6 : ∀ (x0 : Nat) (x2 : Int) (x3 : Int) (x4 : Int) (x5 : Int) (m0 : qM), gK (xG X) x0 = 9 → in32 x2 → in32 x3 → in32 x4 → in32 x5 → qR (xG X) m0 → k6 x0 x2 x3 x4 x5 m0 = some r → qN X 11 6 [(0, .ref x0), (2, .int (iZ x2)), (3, .int (iZ x3)), (4, .int (iZ x4)), (5, .int (iZ x5))] [] m0)
    {x0 : Nat} {x2 : Int} {x3 : Int} {x4 : Int} {x5 : Int} (k_x0 : gK (xG X) x0 = 9) (r_x2 : in32 x2) (r_x3 : in32 x3) (r_x4 : in32 x4) (r_x5 : in32 x5) {m0 : qM} (hR_m0 : qR (xG X) m0)
    (h : f_X8_shares_6 N (xG X) k6 x0 x2 x3 x4 x5 m0 = some r) : qN X 11 6 [(0, .ref x0), (2, .int (iZ x2)), (3, .int (iZ x3)), (4, .int (iZ x4)), (5, .int (iZ x5))] [] m0 := by
  have hT := hX.T
  unfold f_X8_shares_6 at h
  refine qn_iload hX (pc := 6) dX8_shares_6 4 rfl ?_
  refine qn_aload_n hX (pc := 8) dX8_shares_8 0 rfl rfl ?_
  refine qn_getI hX (pc := 9) fd_X8_shares_68 dX8_shares_9 k_x0 ?_
  refine qn_icmp_ge hX (pc := 12) r_x5 (hR_m0.i 805 _ rfl) 45 dX8_shares_12 (by decide) (fun c1 => ?_) (fun c1 => ?_)
  · have h := ite_f h c1
    refine qn_iload_n hX (pc := 45) dX8_shares_45 1 rfl rfl ?_
    refine qn_if_lt hX (pc := 46) r_x2 102 dX8_shares_46 (by decide) (fun c2 => ?_) (fun c2 => ?_)
    · have h := ite_t h c2
      refine qn_sub (ls' := [(0, .ref x0), (4, .int (iZ x4))]) [0, 3] rfl ?_
      exact w_X8_shares_102 hX hE  k_x0 r_x4 hR_m0 h
    · have h := ite_f h c2
      refine qn_iload hX (pc := 49) dX8_shares_49 3 rfl ?_
      refine qn_aload_n hX (pc := 51) dX8_shares_51 0 rfl rfl ?_
      refine qn_getR hX (pc := 52) fd_X8_shares_26 dX8_shares_52 k_x0 ?_
      refine qn_iload_n hX (pc := 55) dX8_shares_55 1 rfl rfl ?_
      obtain ⟨v3, e_v3, b_v3, h⟩ := rdA_e h
      have r_v3 : in32 v3 := by rw [e_v3]; exact hR_m0.a (n := 70) _ (qr_807 hT k_x0) (by decide)
      refine qn_iald hX (pc := 56) 70 dX8_shares_56 (qr_807 hT k_x0) (by decide) b_v3 e_v3 ?_
      refine qn_icmp_ge hX (pc := 57) r_x4 r_v3 65 dX8_shares_57 (by decide) (fun c4 => ?_) (fun c4 => ?_)
      · have h := ite_f h c4
        refine qn_aload_n hX (pc := 65) dX8_shares_65 0 rfl rfl ?_
        refine qn_getR hX (pc := 66) fd_X8_shares_26 dX8_shares_66 k_x0 ?_
        refine qn_iload_n hX (pc := 69) dX8_shares_69 1 rfl rfl ?_
        obtain ⟨v5, e_v5, b_v5, h⟩ := rdA_e h
        have r_v5 : in32 v5 := by rw [e_v5]; exact hR_m0.a (n := 70) _ (qr_807 hT k_x0) (by decide)
        refine qn_iald hX (pc := 70) 70 dX8_shares_70 (qr_807 hT k_x0) (by decide) b_v5 e_v5 ?_
        refine qn_sub (ls' := [(0, .ref x0), (2, .int (iZ x2)), (3, .int (iZ x3)), (4, .int (iZ x4))]) [0, 1, 2, 3] rfl ?_
        exact w_X8_shares_71 hX hE  k_x0 r_x2 r_x3 r_x4 r_v5 hR_m0 h
      · have h := ite_t h c4
        refine qn_iload hX (pc := 60) dX8_shares_60 3 rfl ?_
        refine qn_goto hX (pc := 62) 71 dX8_shares_62 (by decide) ?_
        refine qn_sub (ls' := [(0, .ref x0), (2, .int (iZ x2)), (3, .int (iZ x3)), (4, .int (iZ x4))]) [0, 1, 2, 3] rfl ?_
        exact w_X8_shares_71 hX hE  k_x0 r_x2 r_x3 r_x4 r_x4 hR_m0 h
  · have h := ite_t h c1
    refine qn_aload_n hX (pc := 15) dX8_shares_15 0 rfl rfl ?_
    refine qn_getR hX (pc := 16) fd_X8_shares_29 dX8_shares_16 k_x0 ?_
    refine qn_iload hX (pc := 19) dX8_shares_19 4 rfl ?_
    refine qn_iconst hX (pc := 21) dX8_shares_21 ?_
    obtain ⟨m6, e_m6, b_m6, h⟩ := wrA_e h
    refine qn_iast hX (pc := 22) 70 dX8_shares_22 (qr_808 hT k_x0) (by decide) b_m6 hR_m0 (by decide) e_m6 (fun hR_m6 => ?_) 
    refine qn_aload_n hX (pc := 23) dX8_shares_23 0 rfl rfl ?_
    refine qn_getR hX (pc := 24) fd_X8_shares_32 dX8_shares_24 k_x0 ?_
    refine qn_iload hX (pc := 27) dX8_shares_27 4 rfl ?_
    refine qn_iconst hX (pc := 29) dX8_shares_29 ?_
    obtain ⟨m7, e_m7, b_m7, h⟩ := wrA_e h
    refine qn_iast hX (pc := 30) 70 dX8_shares_30 (qr_809 hT k_x0) (by decide) b_m7 hR_m6 (by decide) e_m7 (fun hR_m7 => ?_) 
    refine qn_aload_n hX (pc := 31) dX8_shares_31 0 rfl rfl ?_
    refine qn_getR hX (pc := 32) fd_X8_shares_35 dX8_shares_32 k_x0 ?_
    refine qn_iload hX (pc := 35) dX8_shares_35 4 rfl ?_
    refine qn_iconst hX (pc := 37) dX8_shares_37 ?_
    obtain ⟨m8, e_m8, b_m8, h⟩ := wrA_e h
    refine qn_iast hX (pc := 38) 70 dX8_shares_38 (qr_810 hT k_x0) (by decide) b_m8 hR_m7 (by decide) e_m8 (fun hR_m8 => ?_) 
    obtain ⟨v9, e_v9, r_v9, h⟩ := ckI_e h
    refine qn_iinc hX (pc := 39) (ls' := [(5, .int (iZ v9)), (0, .ref x0), (2, .int (iZ x2)), (3, .int (iZ x3)), (4, .int (iZ x4))]) dX8_shares_39 4 rfl e_v9 rfl rfl ?_
    refine qn_goto hX (pc := 42) 6 dX8_shares_42 (by decide) ?_
    refine qn_sub (ls' := [(0, .ref x0), (2, .int (iZ x2)), (3, .int (iZ x3)), (4, .int (iZ x4)), (5, .int (iZ v9))]) [1, 2, 3, 4, 0] rfl ?_
    exact hk6 x0 x2 x3 x4 v9 m8 k_x0 r_x2 r_x3 r_x4 r_v9 hR_m8 h
set_option maxHeartbeats 4000000 in
set_option maxRecDepth 20000 in
theorem w_X8_shares_L6 {X : qB} {N : Nat} (hX : qOk X cX8_shares RX8 11 none wsX8_shares 0 0) {r : qM} (hE : xr X = none ∧ (True → xΦ X) ∧ xμ X = r) 
    {x0 : Nat} {x2 : Int} {x3 : Int} {x4 : Int} {x5 : Int} (k_x0 : gK (xG X) x0 = 9) (r_x2 : in32 x2) (r_x3 : in32 x3) (r_x4 : in32 x4) (r_x5 : in32 x5) {m0 : qM} (hR_m0 : qR (xG X) m0)
    (h : f_X8_shares_L6 N (xG X)  x0 x2 x3 x4 x5 m0 = some r) : qN X 11 6 [(0, .ref x0), (2, .int (iZ x2)), (3, .int (iZ x3)), (4, .int (iZ x4)), (5, .int (iZ x5))] [] m0 := by
  unfold f_X8_shares_L6 at h
  exact qLoop_w (σ := Nat × Int × Int × Int × Int × qM) (P := fun p => gK (xG X) p.1 = 9 ∧ in32 p.2.1 ∧ in32 p.2.2.1 ∧ in32 p.2.2.2.1 ∧ in32 p.2.2.2.2.1 ∧ qR (xG X) p.2.2.2.2.2) (Q := fun p => qN X 11 6 [(0, .ref p.1), (2, .int (iZ p.2.1)), (3, .int (iZ p.2.2.1)), (4, .int (iZ p.2.2.2.1)), (5, .int (iZ p.2.2.2.2.1))] [] p.2.2.2.2.2) (fun k hrec p hp hh => w_X8_shares_6 hX hE (fun x0 x2 x3 x4 x5 m0 q0 q1 q2 q3 q4 hRm hh => hrec (x0, x2, x3, x4, x5, m0) ⟨q0, q1, q2, q3, q4, hRm⟩ hh) hp.1 hp.2.1 hp.2.2.1 hp.2.2.2.1 hp.2.2.2.2.1 hp.2.2.2.2.2 hh) N (x0, x2, x3, x4, x5, m0) ⟨k_x0, r_x2, r_x3, r_x4, r_x5, hR_m0⟩ h
set_option maxHeartbeats 4000000 in
set_option maxRecDepth 20000 in
theorem w_X8_shares {X : qB} {N : Nat} (hX : qOk X cX8_shares RX8 11 none wsX8_shares 0 0) {r : qM} (hE : xr X = none ∧ (True → xΦ X) ∧ xμ X = r) 
    {x0 : Nat} {x1 : Int} {x2 : Int} {x3 : Int} (k_x0 : gK (xG X) x0 = 9) (r_x1 : in32 x1) (r_x2 : in32 x2) (r_x3 : in32 x3) {m0 : qM} (hR_m0 : qR (xG X) m0)
    (h : f_X8_shares N (xG X)  x0 x1 x2 x3 m0 = some r) : qN X 11 0 [(0, .ref x0), (1, .int (iZ x1)), (2, .int (iZ x2)), (3, .int (iZ x3))] [] m0 := by
  have hT := hX.T
  unfold f_X8_shares at h
  refine qn_iload_n hX (pc := 0) dX8_shares_0 1 rfl rfl ?_
  refine qn_istore hX (pc := 1) (ls' := [(4, .int (iZ x1)), (0, .ref x0), (1, .int (iZ x1)), (2, .int (iZ x2)), (3, .int (iZ x3))]) dX8_shares_1 rfl rfl ?_
  refine qn_iconst hX (pc := 3) dX8_shares_3 ?_
  refine qn_istore hX (pc := 4) (ls' := [(5, .int (iZ 0)), (4, .int (iZ x1)), (0, .ref x0), (1, .int (iZ x1)), (2, .int (iZ x2)), (3, .int (iZ x3))]) dX8_shares_4 rfl rfl ?_
  refine qn_sub (ls' := [(0, .ref x0), (2, .int (iZ x2)), (3, .int (iZ x3)), (4, .int (iZ x1)), (5, .int (iZ 0))]) [2, 4, 5, 1, 0] rfl ?_
  exact w_X8_shares_L6 hX hE  k_x0 r_x2 r_x3 r_x1 (by decide) hR_m0 h
theorem k_X8_shares (l : Launch) {G : qG} (hT : qT G) {N : Nat} {x0 : Nat} {x1 : Int} {x2 : Int} {x3 : Int} (k_x0 : gK G x0 = 9) (r_x1 : in32 x1) (r_x2 : in32 x2) (r_x3 : in32 x3) {m0 : qM} {r : qM} (h : f_X8_shares N G x0 x1 x2 x3 m0 = some r) : qC l yX8_shares wsX8_shares 0 0 G [.ref x0, .int (iZ x1), .int (iZ x2), .int (iZ x3)] m0 none True r := by
  refine qn_start (hy := by decide) hT (hw := rfl) (hn := Nat.le_of_ble_eq_true rfl) ?_
  intro X h1 h2 h3 h4 hX hR
  subst h4
  exact w_X8_shares hX ⟨h1, fun q => h2 ▸ q, h3⟩ k_x0 r_x1 r_x2 r_x3 hR h
theorem dd_X8_shares : yX8_shares.cls = RX8 ∧ yX8_shares.cls ≠ "java/lang/invoke/MethodHandle" ∧ yX8_shares.cls ≠ "java/lang/invoke/VarHandle" ∧ (parseMethodDescriptor yX8_shares.desc).map (fun d => d.parameters.length) = some 3 := by decide +kernel
-- ProRataMarketModel.tells
theorem hi_X8_tells_8 : ∀ w ∈ wsX80, w ∈ wsX8_tells := fun w h => List.mem_cons_of_mem _ (List.mem_append_right _ h)
theorem fd_X8_tells_7 : qFd RX8 wsX8_tells 7 8 0 1 800 := ⟨RX8, TX8, 32, _, rfl, hi_X8_tells_8, by decide, (by decide +kernel : Cond.fieldLink RX8 7 (TX8 0).1 (TX8 0).2.1 (TX8 0).2.2.1 ∈ wsX8_tells), rfl, rfl, by decide⟩
set_option maxHeartbeats 4000000 in
set_option maxRecDepth 20000 in
theorem w_X8_tells_5 {X : qB} {N : Nat} (hX : qOk X cX8_tells RX8 7 none wsX8_tells 0 0) {r : qM} (hE : xr X = none ∧ (True → xΦ X) ∧ xμ X = r) {k5 : (Nat → Int → Int → Int → Int → Int → Int → qM → Option (qM))} (hk5 : ∀ (x0 : Nat) (x1 : Int) (x2 : Int) (x3 : Int) (x4 : Int) (x5 : Int) (x6 : Int) (m0 : qM), gK (xG X) x0 = 9 → in32 x1 → in32 x2 → in32 x3 → in32 x4 → in32 x5 → in32 x6 → qR (xG X) m0 → k5 x0 x1 x2 x3 x4 x5 x6 m0 = some r → qN X 7 5 [(0, .ref x0), (1, .int (iZ x1)), (2, .int (iZ x2)), (3, .int (iZ x3)), (4, .int (iZ x4)), (5, .int (iZ x5)), (6, .int (iZ x6))] [] m0)
    {x0 : Nat} {x1 : Int} {x2 : Int} {x3 : Int} {x4 : Int} {x5 : Int} {x6 : Int} (k_x0 : gK (xG X) x0 = 9) (r_x1 : in32 x1) (r_x2 : in32 x2) (r_x3 : in32 x3) (r_x4 : in32 x4) (r_x5 : in32 x5) (r_x6 : in32 x6) {m0 : qM} (hR_m0 : qR (xG X) m0)
    (h : f_X8_tells_5 N (xG X) k5 x0 x1 x2 x3 x4 x5 x6 m0 = some r) : qN X 7 5 [(0, .ref x0), (1, .int (iZ x1)), (2, .int (iZ x2)), (3, .int (iZ x3)), (4, .int (iZ x4)), (5, .int (iZ x5)), (6, .int (iZ x6))] [] m0 := by
  have hT := hX.T
  unfold f_X8_tells_5 at h
  refine qn_iload hX (pc := 5) dX8_tells_5 6 rfl ?_
  refine qn_sipush hX (pc := 7) dX8_tells_7 (by decide) ?_
  refine qn_icmp_lt hX (pc := 10) r_x6 (by decide) 35 dX8_tells_10 (by decide) (fun c1 => ?_) (fun c1 => ?_)
  · have h := ite_t h c1
    refine qn_aload_n hX (pc := 35) dX8_tells_35 0 rfl rfl ?_
    refine qn_getR hX (pc := 36) fd_X8_tells_7 dX8_tells_36 k_x0 ?_
    refine qn_sipush hX (pc := 39) dX8_tells_39 (by decide) ?_
    refine qn_iload_n hX (pc := 42) dX8_tells_42 1 rfl rfl ?_
    obtain ⟨m2, e_m2, h⟩ := kp_e h
    refine qn_iast hX (pc := 43) 684 dX8_tells_43 (qr_800 hT k_x0) (by decide) (by decide) hR_m0 r_x1 e_m2 (fun hR_m2 => ?_) 
    refine qn_aload_n hX (pc := 44) dX8_tells_44 0 rfl rfl ?_
    refine qn_getR hX (pc := 45) fd_X8_tells_7 dX8_tells_45 k_x0 ?_
    refine qn_sipush hX (pc := 48) dX8_tells_48 (by decide) ?_
    refine qn_iload_n hX (pc := 51) dX8_tells_51 2 rfl rfl ?_
    obtain ⟨m3, e_m3, h⟩ := kp_e h
    refine qn_iast hX (pc := 52) 684 dX8_tells_52 (qr_800 hT k_x0) (by decide) (by decide) hR_m2 r_x2 e_m3 (fun hR_m3 => ?_) 
    refine qn_aload_n hX (pc := 53) dX8_tells_53 0 rfl rfl ?_
    refine qn_getR hX (pc := 54) fd_X8_tells_7 dX8_tells_54 k_x0 ?_
    refine qn_sipush hX (pc := 57) dX8_tells_57 (by decide) ?_
    refine qn_iload_n hX (pc := 60) dX8_tells_60 3 rfl rfl ?_
    obtain ⟨m4, e_m4, h⟩ := kp_e h
    refine qn_iast hX (pc := 61) 684 dX8_tells_61 (qr_800 hT k_x0) (by decide) (by decide) hR_m3 r_x3 e_m4 (fun hR_m4 => ?_) 
    refine qn_aload_n hX (pc := 62) dX8_tells_62 0 rfl rfl ?_
    refine qn_getR hX (pc := 63) fd_X8_tells_7 dX8_tells_63 k_x0 ?_
    refine qn_sipush hX (pc := 66) dX8_tells_66 (by decide) ?_
    refine qn_iload hX (pc := 69) dX8_tells_69 4 rfl ?_
    obtain ⟨m5, e_m5, h⟩ := kp_e h
    refine qn_iast hX (pc := 71) 684 dX8_tells_71 (qr_800 hT k_x0) (by decide) (by decide) hR_m4 r_x4 e_m5 (fun hR_m5 => ?_) 
    refine qn_aload_n hX (pc := 72) dX8_tells_72 0 rfl rfl ?_
    refine qn_getR hX (pc := 73) fd_X8_tells_7 dX8_tells_73 k_x0 ?_
    refine qn_sipush hX (pc := 76) dX8_tells_76 (by decide) ?_
    refine qn_iload hX (pc := 79) dX8_tells_79 5 rfl ?_
    obtain ⟨m6, e_m6, h⟩ := kp_e h
    refine qn_iast hX (pc := 81) 684 dX8_tells_81 (qr_800 hT k_x0) (by decide) (by decide) hR_m5 r_x5 e_m6 (fun hR_m6 => ?_) 
    refine qn_aload_n hX (pc := 82) dX8_tells_82 0 rfl rfl ?_
    refine qn_getR hX (pc := 83) fd_X8_tells_7 dX8_tells_83 k_x0 ?_
    refine qn_bipush hX (pc := 86) dX8_tells_86 (by decide) ?_
    refine qn_iald hX (pc := 88) (v := gA m6 (gR (xG X) 800 x0) 10) 684 dX8_tells_88 (qr_800 hT k_x0) (by decide) (by decide) rfl ?_
    refine qn_bipush hX (pc := 89) dX8_tells_89 (by decide) ?_
    refine qn_icmp_ge hX (pc := 91) (hR_m6.a (n := 684) _ (qr_800 hT k_x0) (by decide)) (by decide) 105 dX8_tells_91 (by decide) (fun c7 => ?_) (fun c7 => ?_)
    · have h := ite_f h c7
      exact qn_vret hX (pc := 105) dX8_tells_105 hE hR_m6 (Option.some.inj h)
    · have h := ite_t h c7
      refine qn_aload_n hX (pc := 94) dX8_tells_94 0 rfl rfl ?_
      refine qn_getR hX (pc := 95) fd_X8_tells_7 dX8_tells_95 k_x0 ?_
      refine qn_bipush hX (pc := 98) dX8_tells_98 (by decide) ?_
      refine qn_dup2 hX (pc := 100) dX8_tells_100 rfl rfl ?_
      refine qn_iald hX (pc := 101) (v := gA m6 (gR (xG X) 800 x0) 10) 684 dX8_tells_101 (qr_800 hT k_x0) (by decide) (by decide) rfl ?_
      refine qn_iconst hX (pc := 102) dX8_tells_102 ?_
      obtain ⟨v8, e_v8, r_v8, h⟩ := ckI_e h
      refine qn_iadd hX (pc := 103) dX8_tells_103 e_v8 ?_
      obtain ⟨m9, e_m9, h⟩ := kp_e h
      refine qn_iast hX (pc := 104) 684 dX8_tells_104 (qr_800 hT k_x0) (by decide) (by decide) hR_m6 r_v8 e_m9 (fun hR_m9 => ?_) 
      exact qn_vret hX (pc := 105) dX8_tells_105 hE hR_m9 (Option.some.inj h)
  · have h := ite_f h c1
    refine qn_aload_n hX (pc := 13) dX8_tells_13 0 rfl rfl ?_
    refine qn_getR hX (pc := 14) fd_X8_tells_7 dX8_tells_14 k_x0 ?_
    refine qn_iload hX (pc := 17) dX8_tells_17 6 rfl ?_
    refine qn_aload_n hX (pc := 19) dX8_tells_19 0 rfl rfl ?_
    refine qn_getR hX (pc := 20) fd_X8_tells_7 dX8_tells_20 k_x0 ?_
    refine qn_iload hX (pc := 23) dX8_tells_23 6 rfl ?_
    refine qn_iconst hX (pc := 25) dX8_tells_25 ?_
    obtain ⟨v10, e_v10, r_v10, h⟩ := ckI_e h
    refine qn_isub hX (pc := 26) dX8_tells_26 e_v10 ?_
    obtain ⟨v11, e_v11, b_v11, h⟩ := rdA_e h
    have r_v11 : in32 v11 := by rw [e_v11]; exact hR_m0.a (n := 684) _ (qr_800 hT k_x0) (by decide)
    refine qn_iald hX (pc := 27) 684 dX8_tells_27 (qr_800 hT k_x0) (by decide) b_v11 e_v11 ?_
    obtain ⟨m12, e_m12, b_m12, h⟩ := wrA_e h
    refine qn_iast hX (pc := 28) 684 dX8_tells_28 (qr_800 hT k_x0) (by decide) b_m12 hR_m0 r_v11 e_m12 (fun hR_m12 => ?_) 
    obtain ⟨v13, e_v13, r_v13, h⟩ := ckI_e h
    refine qn_iinc hX (pc := 29) (ls' := [(6, .int (iZ v13)), (0, .ref x0), (1, .int (iZ x1)), (2, .int (iZ x2)), (3, .int (iZ x3)), (4, .int (iZ x4)), (5, .int (iZ x5))]) dX8_tells_29 6 rfl e_v13 rfl rfl ?_
    refine qn_goto hX (pc := 32) 5 dX8_tells_32 (by decide) ?_
    refine qn_sub (ls' := [(0, .ref x0), (1, .int (iZ x1)), (2, .int (iZ x2)), (3, .int (iZ x3)), (4, .int (iZ x4)), (5, .int (iZ x5)), (6, .int (iZ v13))]) [1, 2, 3, 4, 5, 6, 0] rfl ?_
    exact hk5 x0 x1 x2 x3 x4 x5 v13 m12 k_x0 r_x1 r_x2 r_x3 r_x4 r_x5 r_v13 hR_m12 h
set_option maxHeartbeats 4000000 in
set_option maxRecDepth 20000 in
theorem w_X8_tells_L5 {X : qB} {N : Nat} (hX : qOk X cX8_tells RX8 7 none wsX8_tells 0 0) {r : qM} (hE : xr X = none ∧ (True → xΦ X) ∧ xμ X = r) 
    {x0 : Nat} {x1 : Int} {x2 : Int} {x3 : Int} {x4 : Int} {x5 : Int} {x6 : Int} (k_x0 : gK (xG X) x0 = 9) (r_x1 : in32 x1) (r_x2 : in32 x2) (r_x3 : in32 x3) (r_x4 : in32 x4) (r_x5 : in32 x5) (r_x6 : in32 x6) {m0 : qM} (hR_m0 : qR (xG X) m0)
    (h : f_X8_tells_L5 N (xG X)  x0 x1 x2 x3 x4 x5 x6 m0 = some r) : qN X 7 5 [(0, .ref x0), (1, .int (iZ x1)), (2, .int (iZ x2)), (3, .int (iZ x3)), (4, .int (iZ x4)), (5, .int (iZ x5)), (6, .int (iZ x6))] [] m0 := by
  unfold f_X8_tells_L5 at h
  exact qLoop_w (σ := Nat × Int × Int × Int × Int × Int × Int × qM) (P := fun p => gK (xG X) p.1 = 9 ∧ in32 p.2.1 ∧ in32 p.2.2.1 ∧ in32 p.2.2.2.1 ∧ in32 p.2.2.2.2.1 ∧ in32 p.2.2.2.2.2.1 ∧ in32 p.2.2.2.2.2.2.1 ∧ qR (xG X) p.2.2.2.2.2.2.2) (Q := fun p => qN X 7 5 [(0, .ref p.1), (1, .int (iZ p.2.1)), (2, .int (iZ p.2.2.1)), (3, .int (iZ p.2.2.2.1)), (4, .int (iZ p.2.2.2.2.1)), (5, .int (iZ p.2.2.2.2.2.1)), (6, .int (iZ p.2.2.2.2.2.2.1))] [] p.2.2.2.2.2.2.2) (fun k hrec p hp hh => w_X8_tells_5 hX hE (fun x0 x1 x2 x3 x4 x5 x6 m0 q0 q1 q2 q3 q4 q5 q6 hRm hh => hrec (x0, x1, x2, x3, x4, x5, x6, m0) ⟨q0, q1, q2, q3, q4, q5, q6, hRm⟩ hh) hp.1 hp.2.1 hp.2.2.1 hp.2.2.2.1 hp.2.2.2.2.1 hp.2.2.2.2.2.1 hp.2.2.2.2.2.2.1 hp.2.2.2.2.2.2.2 hh) N (x0, x1, x2, x3, x4, x5, x6, m0) ⟨k_x0, r_x1, r_x2, r_x3, r_x4, r_x5, r_x6, hR_m0⟩ h
set_option maxHeartbeats 4000000 in
set_option maxRecDepth 20000 in
theorem w_X8_tells {X : qB} {N : Nat} (hX : qOk X cX8_tells RX8 7 none wsX8_tells 0 0) {r : qM} (hE : xr X = none ∧ (True → xΦ X) ∧ xμ X = r) 
    {x0 : Nat} {x1 : Int} {x2 : Int} {x3 : Int} {x4 : Int} {x5 : Int} (k_x0 : gK (xG X) x0 = 9) (r_x1 : in32 x1) (r_x2 : in32 x2) (r_x3 : in32 x3) (r_x4 : in32 x4) (r_x5 : in32 x5) {m0 : qM} (hR_m0 : qR (xG X) m0)
    (h : f_X8_tells N (xG X)  x0 x1 x2 x3 x4 x5 m0 = some r) : qN X 7 0 [(0, .ref x0), (1, .int (iZ x1)), (2, .int (iZ x2)), (3, .int (iZ x3)), (4, .int (iZ x4)), (5, .int (iZ x5))] [] m0 := by
  have hT := hX.T
  unfold f_X8_tells at h
  refine qn_sipush hX (pc := 0) dX8_tells_0 (by decide) ?_
  refine qn_istore hX (pc := 3) (ls' := [(6, .int (iZ 683)), (0, .ref x0), (1, .int (iZ x1)), (2, .int (iZ x2)), (3, .int (iZ x3)), (4, .int (iZ x4)), (5, .int (iZ x5))]) dX8_tells_3 rfl rfl ?_
  refine qn_sub (ls' := [(0, .ref x0), (1, .int (iZ x1)), (2, .int (iZ x2)), (3, .int (iZ x3)), (4, .int (iZ x4)), (5, .int (iZ x5)), (6, .int (iZ 683))]) [1, 2, 3, 4, 5, 6, 0] rfl ?_
  exact w_X8_tells_L5 hX hE  k_x0 r_x1 r_x2 r_x3 r_x4 r_x5 (by decide) hR_m0 h
theorem k_X8_tells (l : Launch) {G : qG} (hT : qT G) {N : Nat} {x0 : Nat} {x1 : Int} {x2 : Int} {x3 : Int} {x4 : Int} {x5 : Int} (k_x0 : gK G x0 = 9) (r_x1 : in32 x1) (r_x2 : in32 x2) (r_x3 : in32 x3) (r_x4 : in32 x4) (r_x5 : in32 x5) {m0 : qM} {r : qM} (h : f_X8_tells N G x0 x1 x2 x3 x4 x5 m0 = some r) : qC l yX8_tells wsX8_tells 0 0 G [.ref x0, .int (iZ x1), .int (iZ x2), .int (iZ x3), .int (iZ x4), .int (iZ x5)] m0 none True r := by
  refine qn_start (hy := by decide) hT (hw := rfl) (hn := Nat.le_of_ble_eq_true rfl) ?_
  intro X h1 h2 h3 h4 hX hR
  subst h4
  exact w_X8_tells hX ⟨h1, fun q => h2 ▸ q, h3⟩ k_x0 r_x1 r_x2 r_x3 r_x4 r_x5 hR h
theorem dd_X8_tells : yX8_tells.cls = RX8 ∧ yX8_tells.cls ≠ "java/lang/invoke/MethodHandle" ∧ yX8_tells.cls ≠ "java/lang/invoke/VarHandle" ∧ (parseMethodDescriptor yX8_tells.desc).map (fun d => d.parameters.length) = some 5 := by decide +kernel
-- ProRataMarketModel.moves
theorem hi_X8_moves_8 : ∀ w ∈ wsX80, w ∈ wsX8_moves := fun w h => List.mem_cons_of_mem _ (List.mem_append_right _ h)
theorem fd_X8_moves_16 : qFd RX8 wsX8_moves 16 8 2 1 802 := ⟨RX8, TX8, 32, _, rfl, hi_X8_moves_8, by decide, (by decide +kernel : Cond.fieldLink RX8 16 (TX8 2).1 (TX8 2).2.1 (TX8 2).2.2.1 ∈ wsX8_moves), rfl, rfl, by decide⟩
theorem fd_X8_moves_7 : qFd RX8 wsX8_moves 7 8 0 1 800 := ⟨RX8, TX8, 32, _, rfl, hi_X8_moves_8, by decide, (by decide +kernel : Cond.fieldLink RX8 7 (TX8 0).1 (TX8 0).2.1 (TX8 0).2.2.1 ∈ wsX8_moves), rfl, rfl, by decide⟩
set_option maxHeartbeats 4000000 in
set_option maxRecDepth 20000 in
theorem w_X8_moves_42 {X : qB} {N : Nat} (hX : qOk X cX8_moves RX8 5 none wsX8_moves 0 0) {r : qM} (hE : xr X = none ∧ (True → xΦ X) ∧ xμ X = r) 
    {x3 : Int} {x4 : Int} {s0 : Nat} {s1 : Int} {s2 : Int} {s3 : Int} (r_x3 : in32 x3) (r_x4 : in32 x4) (k_s0 : gK (xG X) s0 = 3010) (r_s1 : in32 s1) (r_s2 : in64 s2) (r_s3 : in64 s3) {m0 : qM} (hR_m0 : qR (xG X) m0)
    (h : f_X8_moves_42 N (xG X)  x3 x4 s0 s1 s2 s3 m0 = some r) : qN X 5 42 [(3, .int (iZ x3)), (4, .int (iZ x4))] [.long (lZ s3), .long (lZ s2), .int (iZ s1), .ref s0] m0 := by
  have hT := hX.T
  unfold f_X8_moves_42 at h
  refine qn_iload_n hX (pc := 42) dX8_moves_42 0 rfl rfl ?_
  refine qn_i2l hX (pc := 43) r_x3 dX8_moves_43 ?_
  obtain ⟨v1, e_v1, r_v1, h⟩ := ckJ_e h
  refine qn_lmul hX (pc := 44) dX8_moves_44 e_v1 ?_
  refine qn_iload hX (pc := 45) dX8_moves_45 1 rfl ?_
  refine qn_i2l hX (pc := 47) r_x4 dX8_moves_47 ?_
  obtain ⟨v2, e_v2, r_v2, h⟩ := ckJ_e h
  refine qn_lmul hX (pc := 48) dX8_moves_48 e_v2 ?_
  obtain ⟨v3, e_v3, h⟩ := kp_e h
  have r_v3 : in64 v3 := by rw [e_v3]; exact w64_in _
  refine qn_laddw hX (pc := 49) dX8_moves_49 e_v3 ?_
  obtain ⟨m4, e_m4, b_m4, h⟩ := wrA_e h
  refine qn_last hX (pc := 50) 10 dX8_moves_50 k_s0 (by decide) b_m4 hR_m0 r_v3 e_m4 (fun hR_m4 => ?_) 
  exact qn_vret hX (pc := 51) dX8_moves_51 hE hR_m4 (Option.some.inj h)
set_option maxHeartbeats 4000000 in
set_option maxRecDepth 20000 in
theorem w_X8_moves_22 {X : qB} {N : Nat} (hX : qOk X cX8_moves RX8 5 none wsX8_moves 0 0) {r : qM} (hE : xr X = none ∧ (True → xΦ X) ∧ xμ X = r) 
    {x0 : Nat} {x1 : Int} {x2 : Int} {x3 : Int} {x4 : Int} {s0 : Nat} {s1 : Int} {s2 : Int} {s3 : Int} (k_x0 : gK (xG X) x0 = 9) (r_x1 : in32 x1) (r_x2 : in32 x2) (r_x3 : in32 x3) (r_x4 : in32 x4) (k_s0 : gK (xG X) s0 = 1684) (r_s1 : in32 s1) (r_s2 : in32 s2) (r_s3 : in32 s3) {m0 : qM} (hR_m0 : qR (xG X) m0)
    (h : f_X8_moves_22 N (xG X)  x0 x1 x2 x3 x4 s0 s1 s2 s3 m0 = some r) : qN X 5 22 [(0, .ref x0), (1, .int (iZ x1)), (2, .int (iZ x2)), (3, .int (iZ x3)), (4, .int (iZ x4))] [.int (iZ s3), .int (iZ s2), .int (iZ s1), .ref s0] m0 := by
  have hT := hX.T
  unfold f_X8_moves_22 at h
  obtain ⟨v1, e_v1, h⟩ := kp_e h
  have r_v1 : in32 v1 := by rw [e_v1]; exact w32_in _
  refine qn_iaddw hX (pc := 22) dX8_moves_22 e_v1 ?_
  obtain ⟨m2, e_m2, b_m2, h⟩ := wrA_e h
  refine qn_iast hX (pc := 23) 684 dX8_moves_23 k_s0 (by decide) b_m2 hR_m0 r_v1 e_m2 (fun hR_m2 => ?_) 
  refine qn_aload_n hX (pc := 24) dX8_moves_24 0 rfl rfl ?_
  refine qn_getR hX (pc := 25) fd_X8_moves_16 dX8_moves_25 k_x0 ?_
  refine qn_iload_n hX (pc := 28) dX8_moves_28 1 rfl rfl ?_
  refine qn_dup2 hX (pc := 29) dX8_moves_29 rfl rfl ?_
  obtain ⟨v3, e_v3, b_v3, h⟩ := rdA_e h
  have r_v3 : in64 v3 := by rw [e_v3]; exact hR_m2.j (n := 10) _ (qr_802 hT k_x0) (by decide)
  refine qn_lald hX (pc := 30) 10 dX8_moves_30 (qr_802 hT k_x0) (by decide) b_v3 e_v3 ?_
  refine qn_iload_n hX (pc := 31) dX8_moves_31 2 rfl rfl ?_
  refine qn_if_ne hX (pc := 32) r_x2 41 dX8_moves_32 (by decide) (fun c4 => ?_) (fun c4 => ?_)
  · have h := ite_f h c4
    refine qn_lconst hX (pc := 41) 1 dX8_moves_41 (by decide) ?_
    refine qn_sub (ls' := [(3, .int (iZ x3)), (4, .int (iZ x4))]) [3, 4] rfl ?_
    exact w_X8_moves_42 hX hE  r_x3 r_x4 (qr_802 hT k_x0) r_x1 r_v3 (by decide) hR_m2 h
  · have h := ite_t h c4
    refine qn_ldc2 hX (pc := 35) (-1) dX8_moves_35 (by decide +kernel : Cond.constantLong RX8 71 (-1) ∈ wsX8_moves) (by decide) ?_
    refine qn_goto hX (pc := 38) 42 dX8_moves_38 (by decide) ?_
    refine qn_sub (ls' := [(3, .int (iZ x3)), (4, .int (iZ x4))]) [3, 4] rfl ?_
    exact w_X8_moves_42 hX hE  r_x3 r_x4 (qr_802 hT k_x0) r_x1 r_v3 (by decide) hR_m2 h
set_option maxHeartbeats 4000000 in
set_option maxRecDepth 20000 in
theorem w_X8_moves {X : qB} {N : Nat} (hX : qOk X cX8_moves RX8 5 none wsX8_moves 0 0) {r : qM} (hE : xr X = none ∧ (True → xΦ X) ∧ xμ X = r) 
    {x0 : Nat} {x1 : Int} {x2 : Int} {x3 : Int} {x4 : Int} (k_x0 : gK (xG X) x0 = 9) (r_x1 : in32 x1) (r_x2 : in32 x2) (r_x3 : in32 x3) (r_x4 : in32 x4) {m0 : qM} (hR_m0 : qR (xG X) m0)
    (h : f_X8_moves N (xG X)  x0 x1 x2 x3 x4 m0 = some r) : qN X 5 0 [(0, .ref x0), (1, .int (iZ x1)), (2, .int (iZ x2)), (3, .int (iZ x3)), (4, .int (iZ x4))] [] m0 := by
  have hT := hX.T
  unfold f_X8_moves at h
  refine qn_aload_n hX (pc := 0) dX8_moves_0 0 rfl rfl ?_
  refine qn_getR hX (pc := 1) fd_X8_moves_7 dX8_moves_1 k_x0 ?_
  refine qn_bipush hX (pc := 4) dX8_moves_4 (by decide) ?_
  refine qn_iload_n hX (pc := 6) dX8_moves_6 1 rfl rfl ?_
  obtain ⟨v1, e_v1, r_v1, h⟩ := ckI_e h
  refine qn_iadd hX (pc := 7) dX8_moves_7 e_v1 ?_
  refine qn_dup2 hX (pc := 8) dX8_moves_8 rfl rfl ?_
  obtain ⟨v2, e_v2, b_v2, h⟩ := rdA_e h
  have r_v2 : in32 v2 := by rw [e_v2]; exact hR_m0.a (n := 684) _ (qr_800 hT k_x0) (by decide)
  refine qn_iald hX (pc := 9) 684 dX8_moves_9 (qr_800 hT k_x0) (by decide) b_v2 e_v2 ?_
  refine qn_iload_n hX (pc := 10) dX8_moves_10 2 rfl rfl ?_
  refine qn_if_ne hX (pc := 11) r_x2 19 dX8_moves_11 (by decide) (fun c3 => ?_) (fun c3 => ?_)
  · have h := ite_f h c3
    refine qn_iload hX (pc := 19) dX8_moves_19 4 rfl ?_
    obtain ⟨v4, e_v4, r_v4, h⟩ := ckI_e h
    refine qn_ineg hX (pc := 21) dX8_moves_21 e_v4 ?_
    refine qn_sub (ls' := [(0, .ref x0), (1, .int (iZ x1)), (2, .int (iZ x2)), (3, .int (iZ x3)), (4, .int (iZ x4))]) [0, 1, 2, 3, 4] rfl ?_
    exact w_X8_moves_22 hX hE  k_x0 r_x1 r_x2 r_x3 r_x4 (qr_800 hT k_x0) r_v1 r_v2 r_v4 hR_m0 h
  · have h := ite_t h c3
    refine qn_iload hX (pc := 14) dX8_moves_14 4 rfl ?_
    refine qn_goto hX (pc := 16) 22 dX8_moves_16 (by decide) ?_
    refine qn_sub (ls' := [(0, .ref x0), (1, .int (iZ x1)), (2, .int (iZ x2)), (3, .int (iZ x3)), (4, .int (iZ x4))]) [0, 1, 2, 3, 4] rfl ?_
    exact w_X8_moves_22 hX hE  k_x0 r_x1 r_x2 r_x3 r_x4 (qr_800 hT k_x0) r_v1 r_v2 r_x4 hR_m0 h
theorem k_X8_moves (l : Launch) {G : qG} (hT : qT G) {N : Nat} {x0 : Nat} {x1 : Int} {x2 : Int} {x3 : Int} {x4 : Int} (k_x0 : gK G x0 = 9) (r_x1 : in32 x1) (r_x2 : in32 x2) (r_x3 : in32 x3) (r_x4 : in32 x4) {m0 : qM} {r : qM} (h : f_X8_moves N G x0 x1 x2 x3 x4 m0 = some r) : qC l yX8_moves wsX8_moves 0 0 G [.ref x0, .int (iZ x1), .int (iZ x2), .int (iZ x3), .int (iZ x4)] m0 none True r := by
  refine qn_start (hy := by decide) hT (hw := rfl) (hn := Nat.le_of_ble_eq_true rfl) ?_
  intro X h1 h2 h3 h4 hX hR
  subst h4
  exact w_X8_moves hX ⟨h1, fun q => h2 ▸ q, h3⟩ k_x0 r_x1 r_x2 r_x3 r_x4 hR h
theorem dd_X8_moves : yX8_moves.cls = RX8 ∧ yX8_moves.cls ≠ "java/lang/invoke/MethodHandle" ∧ yX8_moves.cls ≠ "java/lang/invoke/VarHandle" ∧ (parseMethodDescriptor yX8_moves.desc).map (fun d => d.parameters.length) = some 4 := by decide +kernel
-- ProRataMarketModel.trades
theorem hi_X8_trades_8 : ∀ w ∈ wsX80, w ∈ wsX8_trades := fun w h => List.mem_cons_of_mem _ (List.mem_append_right _ h)
theorem fd_X8_trades_23 : qFd RX8 wsX8_trades 23 8 6 1 806 := ⟨RX8, TX8, 32, _, rfl, hi_X8_trades_8, by decide, (by decide +kernel : Cond.fieldLink RX8 23 (TX8 6).1 (TX8 6).2.1 (TX8 6).2.2.1 ∈ wsX8_trades), rfl, rfl, by decide⟩
theorem fd_X8_trades_73 : qFd RX8 wsX8_trades 73 8 11 0 811 := ⟨RX8, TX8, 32, _, rfl, hi_X8_trades_8, by decide, (by decide +kernel : Cond.fieldLink RX8 73 (TX8 11).1 (TX8 11).2.1 (TX8 11).2.2.1 ∈ wsX8_trades), rfl, rfl, by decide⟩
theorem fd_X8_trades_80 : qFd RX8 wsX8_trades 80 8 13 0 813 := ⟨RX8, TX8, 32, _, rfl, hi_X8_trades_8, by decide, (by decide +kernel : Cond.fieldLink RX8 80 (TX8 13).1 (TX8 13).2.1 (TX8 13).2.2.1 ∈ wsX8_trades), rfl, rfl, by decide⟩
theorem fd_X8_trades_87 : qFd RX8 wsX8_trades 87 8 12 0 812 := ⟨RX8, TX8, 32, _, rfl, hi_X8_trades_8, by decide, (by decide +kernel : Cond.fieldLink RX8 87 (TX8 12).1 (TX8 12).2.1 (TX8 12).2.2.1 ∈ wsX8_trades), rfl, rfl, by decide⟩
theorem fd_X8_trades_7 : qFd RX8 wsX8_trades 7 8 0 1 800 := ⟨RX8, TX8, 32, _, rfl, hi_X8_trades_8, by decide, (by decide +kernel : Cond.fieldLink RX8 7 (TX8 0).1 (TX8 0).2.1 (TX8 0).2.2.1 ∈ wsX8_trades), rfl, rfl, by decide⟩
theorem fd_X8_trades_90 : qFd RX8 wsX8_trades 90 8 14 0 814 := ⟨RX8, TX8, 32, _, rfl, hi_X8_trades_8, by decide, (by decide +kernel : Cond.fieldLink RX8 90 (TX8 14).1 (TX8 14).2.1 (TX8 14).2.2.1 ∈ wsX8_trades), rfl, rfl, by decide⟩
theorem fp_X8_trades_90 : qFp RX8 wsX8_trades 90 8 14 0 814 .int := ⟨RX8, TX8, 32, _, tyX8, rfl, hi_X8_trades_8, by decide, (by decide +kernel : Cond.fieldLink RX8 90 (TX8 14).1 (TX8 14).2.1 (TX8 14).2.2.1 ∈ wsX8_trades), rfl, rfl, by decide, tyX8_ok, nmX8, rfl, by decide +kernel⟩
theorem fp_X8_trades_93 : qFp RX8 wsX8_trades 93 8 15 0 815 .int := ⟨RX8, TX8, 32, _, tyX8, rfl, hi_X8_trades_8, by decide, (by decide +kernel : Cond.fieldLink RX8 93 (TX8 15).1 (TX8 15).2.1 (TX8 15).2.2.1 ∈ wsX8_trades), rfl, rfl, by decide, tyX8_ok, nmX8, rfl, by decide +kernel⟩
theorem fd_X8_trades_96 : qFd RX8 wsX8_trades 96 8 16 2 816 := ⟨RX8, TX8, 32, _, rfl, hi_X8_trades_8, by decide, (by decide +kernel : Cond.fieldLink RX8 96 (TX8 16).1 (TX8 16).2.1 (TX8 16).2.2.1 ∈ wsX8_trades), rfl, rfl, by decide⟩
theorem fp_X8_trades_96 : qFp RX8 wsX8_trades 96 8 16 2 816 .long := ⟨RX8, TX8, 32, _, tyX8, rfl, hi_X8_trades_8, by decide, (by decide +kernel : Cond.fieldLink RX8 96 (TX8 16).1 (TX8 16).2.1 (TX8 16).2.2.1 ∈ wsX8_trades), rfl, rfl, by decide, tyX8_ok, nmX8, rfl, by decide +kernel⟩
set_option maxHeartbeats 4000000 in
set_option maxRecDepth 20000 in
theorem w_X8_trades {X : qB} {N : Nat} (hX : qOk X cX8_trades RX8 6 none wsX8_trades 1 26) {r : qM} (hE : xr X = none ∧ (True → xΦ X) ∧ xμ X = r) 
    {x0 : Nat} {x1 : Int} {x2 : Int} {x3 : Int} {x4 : Int} (k_x0 : gK (xG X) x0 = 9) (r_x1 : in32 x1) (r_x2 : in32 x2) (r_x3 : in32 x3) (r_x4 : in32 x4) {m0 : qM} (hR_m0 : qR (xG X) m0)
    (h : f_X8_trades N (xG X)  x0 x1 x2 x3 x4 m0 = some r) : qN X 6 0 [(0, .ref x0), (1, .int (iZ x1)), (2, .int (iZ x2)), (3, .int (iZ x3)), (4, .int (iZ x4))] [] m0 := by
  have hT := hX.T
  unfold f_X8_trades at h
  refine qn_iload_n hX (pc := 0) dX8_trades_0 3 rfl rfl ?_
  refine qn_if_ne hX (pc := 1) r_x3 5 dX8_trades_1 (by decide) (fun c1 => ?_) (fun c1 => ?_)
  · have h := ite_f h c1
    refine qn_aload_n hX (pc := 5) dX8_trades_5 0 rfl rfl ?_
    refine qn_getR hX (pc := 6) fd_X8_trades_23 dX8_trades_6 k_x0 ?_
    refine qn_iload_n hX (pc := 9) dX8_trades_9 1 rfl rfl ?_
    obtain ⟨v2, e_v2, b_v2, h⟩ := rdA_e h
    have r_v2 : in32 v2 := by rw [e_v2]; exact hR_m0.a (n := 70) _ (qr_806 hT k_x0) (by decide)
    refine qn_iald hX (pc := 10) 70 dX8_trades_10 (qr_806 hT k_x0) (by decide) b_v2 e_v2 ?_
    refine qn_istore hX (pc := 11) (ls' := [(5, .int (iZ v2)), (0, .ref x0), (1, .int (iZ x1)), (2, .int (iZ x2)), (3, .int (iZ x3)), (4, .int (iZ x4))]) dX8_trades_11 rfl rfl ?_
    refine qn_aload_n hX (pc := 13) dX8_trades_13 1 rfl rfl ?_
    refine qn_aload_n hX (pc := 14) dX8_trades_14 1 rfl rfl ?_
    refine qn_iload hX (pc := 15) dX8_trades_15 0 rfl ?_
    refine qn_iconst hX (pc := 17) dX8_trades_17 ?_
    obtain ⟨v4, m3, e_m3, h⟩ := kb2_e h
    refine qn_callVi hX (pc := 18) [.int (iZ v2), .int (iZ 0)] [.int (iZ 0), .int (iZ v2)] 2 dX8_trades_18 gX8_trades_X8_ofOrder rfl dd_X8_ofOrder ⟨rfl, rfl⟩ rfl rfl (by decide) k_x0 rfl rfl hR_m0 (k_X8_ofOrder (xl X) hT k_x0 r_v2 (by decide) e_m3) (fun r_v4 hR_m3 => ?_)
    refine qn_aload_n hX (pc := 21) dX8_trades_21 1 rfl rfl ?_
    refine qn_getI hX (pc := 22) fd_X8_trades_73 dX8_trades_22 k_x0 ?_
    refine qn_iload_n hX (pc := 25) dX8_trades_25 3 rfl rfl ?_
    refine qn_iload_n hX (pc := 26) dX8_trades_26 4 rfl rfl ?_
    refine qn_iload hX (pc := 27) dX8_trades_27 5 rfl ?_
    obtain ⟨m5, e_m5, h⟩ := kb_e h
    refine qn_callVv hX (pc := 29) [.int (iZ v4), .int (iZ (gI m3 811 x0)), .int (iZ x2), .int (iZ x3), .int (iZ x4)] [.int (iZ x4), .int (iZ x3), .int (iZ x2), .int (iZ (gI m3 811 x0)), .int (iZ v4)] 5 dX8_trades_29 gX8_trades_X8_tells rfl dd_X8_tells ⟨rfl, rfl⟩ rfl rfl (by decide) k_x0 rfl rfl hR_m3 (k_X8_tells (xl X) hT k_x0 r_v4 (hR_m3.i 811 _ rfl) r_x2 r_x3 r_x4 e_m5) (fun r_v6 hR_m5 => ?_)
    refine qn_aload_n hX (pc := 32) dX8_trades_32 1 rfl rfl ?_
    refine qn_aload_n hX (pc := 33) dX8_trades_33 1 rfl rfl ?_
    refine qn_iload hX (pc := 34) dX8_trades_34 0 rfl ?_
    refine qn_iconst hX (pc := 36) dX8_trades_36 ?_
    obtain ⟨v8, m7, e_m7, h⟩ := kb2_e h
    refine qn_callVi hX (pc := 37) [.int (iZ v2), .int (iZ 1)] [.int (iZ 1), .int (iZ v2)] 2 dX8_trades_37 gX8_trades_X8_ofOrder rfl dd_X8_ofOrder ⟨rfl, rfl⟩ rfl rfl (by decide) k_x0 rfl rfl hR_m5 (k_X8_ofOrder (xl X) hT k_x0 r_v2 (by decide) e_m7) (fun r_v8 hR_m7 => ?_)
    refine qn_iconst hX (pc := 40) dX8_trades_40 ?_
    refine qn_aload_n hX (pc := 41) dX8_trades_41 1 rfl rfl ?_
    refine qn_getI hX (pc := 42) fd_X8_trades_80 dX8_trades_42 k_x0 ?_
    obtain ⟨v9, e_v9, r_v9, h⟩ := ckI_e h
    refine qn_isub hX (pc := 45) dX8_trades_45 e_v9 ?_
    refine qn_iload_n hX (pc := 46) dX8_trades_46 3 rfl rfl ?_
    refine qn_iload_n hX (pc := 47) dX8_trades_47 4 rfl rfl ?_
    obtain ⟨m10, e_m10, h⟩ := kb_e h
    refine qn_callVv hX (pc := 48) [.int (iZ v8), .int (iZ v9), .int (iZ x2), .int (iZ x3)] [.int (iZ x3), .int (iZ x2), .int (iZ v9), .int (iZ v8)] 4 dX8_trades_48 gX8_trades_X8_moves rfl dd_X8_moves ⟨rfl, rfl⟩ rfl rfl (by decide) k_x0 rfl rfl hR_m7 (k_X8_moves (xl X) hT k_x0 r_v8 r_v9 r_x2 r_x3 e_m10) (fun r_v11 hR_m10 => ?_)
    refine qn_aload_n hX (pc := 51) dX8_trades_51 1 rfl rfl ?_
    refine qn_aload_n hX (pc := 52) dX8_trades_52 1 rfl rfl ?_
    refine qn_getI hX (pc := 53) fd_X8_trades_87 dX8_trades_53 k_x0 ?_
    refine qn_aload_n hX (pc := 56) dX8_trades_56 1 rfl rfl ?_
    refine qn_getI hX (pc := 57) fd_X8_trades_80 dX8_trades_57 k_x0 ?_
    refine qn_iload_n hX (pc := 60) dX8_trades_60 3 rfl rfl ?_
    refine qn_iload_n hX (pc := 61) dX8_trades_61 4 rfl rfl ?_
    obtain ⟨m12, e_m12, h⟩ := kb_e h
    refine qn_callVv hX (pc := 62) [.int (iZ (gI m10 812 x0)), .int (iZ (gI m10 813 x0)), .int (iZ x2), .int (iZ x3)] [.int (iZ x3), .int (iZ x2), .int (iZ (gI m10 813 x0)), .int (iZ (gI m10 812 x0))] 4 dX8_trades_62 gX8_trades_X8_moves rfl dd_X8_moves ⟨rfl, rfl⟩ rfl rfl (by decide) k_x0 rfl rfl hR_m10 (k_X8_moves (xl X) hT k_x0 (hR_m10.i 812 _ rfl) (hR_m10.i 813 _ rfl) r_x2 r_x3 e_m12) (fun r_v13 hR_m12 => ?_)
    refine qn_aload_n hX (pc := 65) dX8_trades_65 1 rfl rfl ?_
    refine qn_getR hX (pc := 66) fd_X8_trades_7 dX8_trades_66 k_x0 ?_
    refine qn_iconst hX (pc := 69) dX8_trades_69 ?_
    refine qn_iload_n hX (pc := 70) dX8_trades_70 3 rfl rfl ?_
    obtain ⟨m14, e_m14, h⟩ := kp_e h
    refine qn_iast hX (pc := 71) 684 dX8_trades_71 (qr_800 hT k_x0) (by decide) (by decide) hR_m12 r_x2 e_m14 (fun hR_m14 => ?_) 
    refine qn_aload_n hX (pc := 72) dX8_trades_72 1 rfl rfl ?_
    refine qn_getR hX (pc := 73) fd_X8_trades_7 dX8_trades_73 k_x0 ?_
    refine qn_bipush hX (pc := 76) dX8_trades_76 (by decide) ?_
    refine qn_dup2 hX (pc := 78) dX8_trades_78 rfl rfl ?_
    refine qn_iald hX (pc := 79) (v := gA m14 (gR (xG X) 800 x0) 11) 684 dX8_trades_79 (qr_800 hT k_x0) (by decide) (by decide) rfl ?_
    refine qn_iload_n hX (pc := 80) dX8_trades_80 4 rfl rfl ?_
    obtain ⟨v15, e_v15, h⟩ := kp_e h
    have r_v15 : in32 v15 := by rw [e_v15]; exact w32_in _
    refine qn_iaddw hX (pc := 81) dX8_trades_81 e_v15 ?_
    obtain ⟨m16, e_m16, h⟩ := kp_e h
    refine qn_iast hX (pc := 82) 684 dX8_trades_82 (qr_800 hT k_x0) (by decide) (by decide) hR_m14 r_v15 e_m16 (fun hR_m16 => ?_) 
    refine qn_aload_n hX (pc := 83) dX8_trades_83 1 rfl rfl ?_
    refine qn_dup hX (pc := 84) dX8_trades_84 rfl ?_
    refine qn_getI hX (pc := 85) fd_X8_trades_90 dX8_trades_85 k_x0 ?_
    refine qn_iload_n hX (pc := 88) dX8_trades_88 4 rfl rfl ?_
    obtain ⟨v17, e_v17, h⟩ := kp_e h
    have r_v17 : in32 v17 := by rw [e_v17]; exact w32_in _
    refine qn_iaddw hX (pc := 89) dX8_trades_89 e_v17 ?_
    obtain ⟨m18, e_m18, h⟩ := kp_e h
    refine qn_putI hX (pc := 90) fp_X8_trades_90 dX8_trades_90 k_x0 hR_m16 r_v17 e_m18 (fun hR_m18 => ?_) 
    refine qn_aload_n hX (pc := 93) dX8_trades_93 1 rfl rfl ?_
    refine qn_iload_n hX (pc := 94) dX8_trades_94 3 rfl rfl ?_
    obtain ⟨m19, e_m19, h⟩ := kp_e h
    refine qn_putI hX (pc := 95) fp_X8_trades_93 dX8_trades_95 k_x0 hR_m18 r_x2 e_m19 (fun hR_m19 => ?_) 
    refine qn_aload_n hX (pc := 98) dX8_trades_98 1 rfl rfl ?_
    refine qn_dup hX (pc := 99) dX8_trades_99 rfl ?_
    refine qn_getJ hX (pc := 100) fd_X8_trades_96 dX8_trades_100 k_x0 ?_
    refine qn_iload_n hX (pc := 103) dX8_trades_103 4 rfl rfl ?_
    refine qn_i2l hX (pc := 104) r_x3 dX8_trades_104 ?_
    refine qn_iload_n hX (pc := 105) dX8_trades_105 3 rfl rfl ?_
    refine qn_i2l hX (pc := 106) r_x2 dX8_trades_106 ?_
    obtain ⟨v20, e_v20, r_v20, h⟩ := ckJ_e h
    refine qn_lmul hX (pc := 107) dX8_trades_107 e_v20 ?_
    obtain ⟨v21, e_v21, h⟩ := kp_e h
    have r_v21 : in64 v21 := by rw [e_v21]; exact w64_in _
    refine qn_laddw hX (pc := 108) dX8_trades_108 e_v21 ?_
    obtain ⟨m22, e_m22, h⟩ := kp_e h
    refine qn_putJ hX (pc := 109) fp_X8_trades_96 dX8_trades_109 k_x0 hR_m19 r_v21 e_m22 (fun hR_m22 => ?_) 
    exact qn_vret hX (pc := 112) dX8_trades_112 hE hR_m22 (Option.some.inj h)
  · have h := ite_t h c1
    exact qn_vret hX (pc := 4) dX8_trades_4 hE hR_m0 (Option.some.inj h)
theorem k_X8_trades (l : Launch) {G : qG} (hT : qT G) {N : Nat} {x0 : Nat} {x1 : Int} {x2 : Int} {x3 : Int} {x4 : Int} (k_x0 : gK G x0 = 9) (r_x1 : in32 x1) (r_x2 : in32 x2) (r_x3 : in32 x3) (r_x4 : in32 x4) {m0 : qM} {r : qM} (h : f_X8_trades N G x0 x1 x2 x3 x4 m0 = some r) : qC l yX8_trades wsX8_trades 1 26 G [.ref x0, .int (iZ x1), .int (iZ x2), .int (iZ x3), .int (iZ x4)] m0 none True r := by
  refine qn_start (hy := by decide) hT (hw := rfl) (hn := Nat.le_of_ble_eq_true rfl) ?_
  intro X h1 h2 h3 h4 hX hR
  subst h4
  exact w_X8_trades hX ⟨h1, fun q => h2 ▸ q, h3⟩ k_x0 r_x1 r_x2 r_x3 r_x4 hR h
theorem dd_X8_trades : yX8_trades.cls = RX8 ∧ yX8_trades.cls ≠ "java/lang/invoke/MethodHandle" ∧ yX8_trades.cls ≠ "java/lang/invoke/VarHandle" ∧ (parseMethodDescriptor yX8_trades.desc).map (fun d => d.parameters.length) = some 4 := by decide +kernel
-- ProRataMarketModel.has
theorem hi_X8_has_8 : ∀ w ∈ wsX80, w ∈ wsX8_has := fun w h => List.mem_cons_of_mem _ (List.mem_append_right _ h)
theorem fd_X8_has_29 : qFd RX8 wsX8_has 29 8 8 1 808 := ⟨RX8, TX8, 32, _, rfl, hi_X8_has_8, by decide, (by decide +kernel : Cond.fieldLink RX8 29 (TX8 8).1 (TX8 8).2.1 (TX8 8).2.2.1 ∈ wsX8_has), rfl, rfl, by decide⟩
theorem fd_X8_has_32 : qFd RX8 wsX8_has 32 8 9 1 809 := ⟨RX8, TX8, 32, _, rfl, hi_X8_has_8, by decide, (by decide +kernel : Cond.fieldLink RX8 32 (TX8 9).1 (TX8 9).2.1 (TX8 9).2.2.1 ∈ wsX8_has), rfl, rfl, by decide⟩
theorem fd_X8_has_35 : qFd RX8 wsX8_has 35 8 10 1 810 := ⟨RX8, TX8, 32, _, rfl, hi_X8_has_8, by decide, (by decide +kernel : Cond.fieldLink RX8 35 (TX8 10).1 (TX8 10).2.1 (TX8 10).2.2.1 ∈ wsX8_has), rfl, rfl, by decide⟩
set_option maxHeartbeats 4000000 in
set_option maxRecDepth 20000 in
theorem w_X8_has {X : qB} {N : Nat} (hX : qOk X cX8_has RX8 2 (some .int) wsX8_has 0 0) {r : Int} {nu : qM} (hE : xr X = some (.int (iZ r)) ∧ (in32 r → xΦ X) ∧ xμ X = nu) 
    {x0 : Nat} {x1 : Int} (k_x0 : gK (xG X) x0 = 9) (r_x1 : in32 x1) {m0 : qM} (hR_m0 : qR (xG X) m0)
    (h : f_X8_has N (xG X)  x0 x1 m0 = some (r, nu)) : qN X 2 0 [(0, .ref x0), (1, .int (iZ x1))] [] m0 := by
  have hT := hX.T
  unfold f_X8_has at h
  refine qn_aload_n hX (pc := 0) dX8_has_0 0 rfl rfl ?_
  refine qn_getR hX (pc := 1) fd_X8_has_29 dX8_has_1 k_x0 ?_
  refine qn_iload_n hX (pc := 4) dX8_has_4 1 rfl rfl ?_
  obtain ⟨v1, e_v1, b_v1, h⟩ := rdA_e h
  have r_v1 : in32 v1 := by rw [e_v1]; exact hR_m0.a (n := 70) _ (qr_808 hT k_x0) (by decide)
  refine qn_iald hX (pc := 5) 70 dX8_has_5 (qr_808 hT k_x0) (by decide) b_v1 e_v1 ?_
  refine qn_aload_n hX (pc := 6) dX8_has_6 0 rfl rfl ?_
  refine qn_getR hX (pc := 7) fd_X8_has_32 dX8_has_7 k_x0 ?_
  refine qn_iload_n hX (pc := 10) dX8_has_10 1 rfl rfl ?_
  obtain ⟨v2, e_v2, b_v2, h⟩ := rdA_e h
  have r_v2 : in32 v2 := by rw [e_v2]; exact hR_m0.a (n := 70) _ (qr_809 hT k_x0) (by decide)
  refine qn_iald hX (pc := 11) 70 dX8_has_11 (qr_809 hT k_x0) (by decide) b_v2 e_v2 ?_
  obtain ⟨v3, e_v3, r_v3, h⟩ := ckI_e h
  refine qn_iadd hX (pc := 12) dX8_has_12 e_v3 ?_
  refine qn_aload_n hX (pc := 13) dX8_has_13 0 rfl rfl ?_
  refine qn_getR hX (pc := 14) fd_X8_has_35 dX8_has_14 k_x0 ?_
  refine qn_iload_n hX (pc := 17) dX8_has_17 1 rfl rfl ?_
  obtain ⟨v4, e_v4, b_v4, h⟩ := rdA_e h
  have r_v4 : in32 v4 := by rw [e_v4]; exact hR_m0.a (n := 70) _ (qr_810 hT k_x0) (by decide)
  refine qn_iald hX (pc := 18) 70 dX8_has_18 (qr_810 hT k_x0) (by decide) b_v4 e_v4 ?_
  obtain ⟨v5, e_v5, r_v5, h⟩ := ckI_e h
  refine qn_iadd hX (pc := 19) dX8_has_19 e_v5 ?_
  exact qn_iret hX (pc := 20) dX8_has_20 hE hR_m0 r_v5 (Option.some.inj h)
theorem k_X8_has (l : Launch) {G : qG} (hT : qT G) {N : Nat} {x0 : Nat} {x1 : Int} (k_x0 : gK G x0 = 9) (r_x1 : in32 x1) {m0 : qM} {r : Int} {nu : qM} (h : f_X8_has N G x0 x1 m0 = some (r, nu)) : qC l yX8_has wsX8_has 0 0 G [.ref x0, .int (iZ x1)] m0 (some (.int (iZ r))) (in32 r) nu := by
  refine qn_start (hy := by decide) hT (hw := rfl) (hn := Nat.le_of_ble_eq_true rfl) ?_
  intro X h1 h2 h3 h4 hX hR
  subst h4
  exact w_X8_has hX ⟨h1, fun q => h2 ▸ q, h3⟩ k_x0 r_x1 hR h
theorem dd_X8_has : yX8_has.cls = RX8 ∧ yX8_has.cls ≠ "java/lang/invoke/MethodHandle" ∧ yX8_has.cls ≠ "java/lang/invoke/VarHandle" ∧ (parseMethodDescriptor yX8_has.desc).map (fun d => d.parameters.length) = some 1 := by decide +kernel
-- ProRataMarketModel.settles
theorem hi_X8_settles_8 : ∀ w ∈ wsX80, w ∈ wsX8_settles := fun w h => List.mem_cons_of_mem _ (List.mem_append_right _ h)
theorem fd_X8_settles_26 : qFd RX8 wsX8_settles 26 8 7 1 807 := ⟨RX8, TX8, 32, _, rfl, hi_X8_settles_8, by decide, (by decide +kernel : Cond.fieldLink RX8 26 (TX8 7).1 (TX8 7).2.1 (TX8 7).2.2.1 ∈ wsX8_settles), rfl, rfl, by decide⟩
theorem fd_X8_settles_23 : qFd RX8 wsX8_settles 23 8 6 1 806 := ⟨RX8, TX8, 32, _, rfl, hi_X8_settles_8, by decide, (by decide +kernel : Cond.fieldLink RX8 23 (TX8 6).1 (TX8 6).2.1 (TX8 6).2.2.1 ∈ wsX8_settles), rfl, rfl, by decide⟩
theorem fd_X8_settles_68 : qFd RX8 wsX8_settles 68 8 5 0 805 := ⟨RX8, TX8, 32, _, rfl, hi_X8_settles_8, by decide, (by decide +kernel : Cond.fieldLink RX8 68 (TX8 5).1 (TX8 5).2.1 (TX8 5).2.2.1 ∈ wsX8_settles), rfl, rfl, by decide⟩
theorem fd_X8_settles_7 : qFd RX8 wsX8_settles 7 8 0 1 800 := ⟨RX8, TX8, 32, _, rfl, hi_X8_settles_8, by decide, (by decide +kernel : Cond.fieldLink RX8 7 (TX8 0).1 (TX8 0).2.1 (TX8 0).2.2.1 ∈ wsX8_settles), rfl, rfl, by decide⟩
theorem fd_X8_settles_29 : qFd RX8 wsX8_settles 29 8 8 1 808 := ⟨RX8, TX8, 32, _, rfl, hi_X8_settles_8, by decide, (by decide +kernel : Cond.fieldLink RX8 29 (TX8 8).1 (TX8 8).2.1 (TX8 8).2.2.1 ∈ wsX8_settles), rfl, rfl, by decide⟩
set_option maxHeartbeats 4000000 in
set_option maxRecDepth 20000 in
theorem w_X8_settles_92 {X : qB} {N : Nat} (hX : qOk X cX8_settles RX8 5 none wsX8_settles 2 45) {r : qM} (hE : xr X = none ∧ (True → xΦ X) ∧ xμ X = r) {k46 : (Nat → Int → qM → Option (qM))} (hk46 : ∀ (x0 : Nat) (x3 : Int) (m0 : qM), gK (xG X) x0 = 9 → in32 x3 → qR (xG X) m0 → k46 x0 x3 m0 = some r → qN X 5 46 [(0, .ref x0), (3, .int (iZ x3))] [] m0)
    {x0 : Nat} {x3 : Int} (k_x0 : gK (xG X) x0 = 9) (r_x3 : in32 x3) {m0 : qM} (hR_m0 : qR (xG X) m0)
    (h : f_X8_settles_92 N (xG X) k46 x0 x3 m0 = some r) : qN X 5 92 [(0, .ref x0), (3, .int (iZ x3))] [] m0 := by
  have hT := hX.T
  unfold f_X8_settles_92 at h
  obtain ⟨v1, e_v1, r_v1, h⟩ := ckI_e h
  refine qn_iinc hX (pc := 92) (ls' := [(3, .int (iZ v1)), (0, .ref x0)]) dX8_settles_92 1 rfl e_v1 rfl rfl ?_
  refine qn_goto hX (pc := 95) 46 dX8_settles_95 (by decide) ?_
  refine qn_sub (ls' := [(0, .ref x0), (3, .int (iZ v1))]) [1, 0] rfl ?_
  exact hk46 x0 v1 m0 k_x0 r_v1 hR_m0 h
set_option maxHeartbeats 4000000 in
set_option maxRecDepth 20000 in
theorem w_X8_settles_46 {X : qB} {N : Nat} (hX : qOk X cX8_settles RX8 5 none wsX8_settles 2 45) {r : qM} (hE : xr X = none ∧ (True → xΦ X) ∧ xμ X = r) {k46 : (Nat → Int → qM → Option (qM))} (hk46 : ∀ (x0 : Nat) (x3 : Int) (m0 : qM), gK (xG X) x0 = 9 → in32 x3 → qR (xG X) m0 → k46 x0 x3 m0 = some r → qN X 5 46 [(0, .ref x0), (3, .int (iZ x3))] [] m0)
    {x0 : Nat} {x3 : Int} (k_x0 : gK (xG X) x0 = 9) (r_x3 : in32 x3) {m0 : qM} (hR_m0 : qR (xG X) m0)
    (h : f_X8_settles_46 N (xG X) k46 x0 x3 m0 = some r) : qN X 5 46 [(0, .ref x0), (3, .int (iZ x3))] [] m0 := by
  have hT := hX.T
  unfold f_X8_settles_46 at h
  refine qn_iload_n hX (pc := 46) dX8_settles_46 1 rfl rfl ?_
  refine qn_if_lt hX (pc := 47) r_x3 98 dX8_settles_47 (by decide) (fun c1 => ?_) (fun c1 => ?_)
  · have h := ite_t h c1
    exact qn_vret hX (pc := 98) dX8_settles_98 hE hR_m0 (Option.some.inj h)
  · have h := ite_f h c1
    refine qn_aload_n hX (pc := 50) dX8_settles_50 0 rfl rfl ?_
    refine qn_getR hX (pc := 51) fd_X8_settles_26 dX8_settles_51 k_x0 ?_
    refine qn_iload_n hX (pc := 54) dX8_settles_54 1 rfl rfl ?_
    obtain ⟨v2, e_v2, b_v2, h⟩ := rdA_e h
    have r_v2 : in32 v2 := by rw [e_v2]; exact hR_m0.a (n := 70) _ (qr_807 hT k_x0) (by decide)
    refine qn_iald hX (pc := 55) 70 dX8_settles_55 (qr_807 hT k_x0) (by decide) b_v2 e_v2 ?_
    refine qn_aload_n hX (pc := 56) dX8_settles_56 0 rfl rfl ?_
    refine qn_iload_n hX (pc := 57) dX8_settles_57 1 rfl rfl ?_
    obtain ⟨v4, m3, e_m3, h⟩ := kb2_e h
    refine qn_callVi hX (pc := 58) [.int (iZ x3)] [.int (iZ x3)] 1 dX8_settles_58 gX8_settles_X8_has rfl dd_X8_has ⟨rfl, rfl⟩ rfl rfl (by decide) k_x0 rfl rfl hR_m0 (k_X8_has (xl X) hT k_x0 r_x3 e_m3) (fun r_v4 hR_m3 => ?_)
    obtain ⟨v5, e_v5, r_v5, h⟩ := ckI_e h
    refine qn_isub hX (pc := 61) dX8_settles_61 e_v5 ?_
    refine qn_istore hX (pc := 62) (ls' := [(4, .int (iZ v5)), (0, .ref x0), (3, .int (iZ x3))]) dX8_settles_62 rfl rfl ?_
    refine qn_aload_n hX (pc := 64) dX8_settles_64 1 rfl rfl ?_
    refine qn_aload_n hX (pc := 65) dX8_settles_65 1 rfl rfl ?_
    refine qn_getR hX (pc := 66) fd_X8_settles_23 dX8_settles_66 k_x0 ?_
    refine qn_iload_n hX (pc := 69) dX8_settles_69 2 rfl rfl ?_
    obtain ⟨v6, e_v6, b_v6, h⟩ := rdA_e h
    have r_v6 : in32 v6 := by rw [e_v6]; exact hR_m3.a (n := 70) _ (qr_806 hT k_x0) (by decide)
    refine qn_iald hX (pc := 70) 70 dX8_settles_70 (qr_806 hT k_x0) (by decide) b_v6 e_v6 ?_
    refine qn_iconst hX (pc := 71) dX8_settles_71 ?_
    refine qn_iload hX (pc := 72) dX8_settles_72 0 rfl ?_
    obtain ⟨m7, e_m7, h⟩ := kb_e h
    refine qn_callVv hX (pc := 74) [.int (iZ v6), .int (iZ 4), .int (iZ v5)] [.int (iZ v5), .int (iZ 4), .int (iZ v6)] 3 dX8_settles_74 gX8_settles_X8_setOrder rfl dd_X8_setOrder ⟨rfl, rfl⟩ rfl rfl (by decide) k_x0 rfl rfl hR_m3 (k_X8_setOrder (xl X) hT k_x0 r_v6 (by decide) r_v5 e_m7) (fun r_v8 hR_m7 => ?_)
    refine qn_iload hX (pc := 77) dX8_settles_77 0 rfl ?_
    refine qn_if_ne hX (pc := 79) r_v5 92 dX8_settles_79 (by decide) (fun c9 => ?_) (fun c9 => ?_)
    · have h := ite_f h c9
      refine qn_sub (ls' := [(0, .ref x0), (3, .int (iZ x3))]) [1, 2] rfl ?_
      exact w_X8_settles_92 hX hE hk46 k_x0 r_x3 hR_m7 h
    · have h := ite_t h c9
      refine qn_aload_n hX (pc := 82) dX8_settles_82 1 rfl rfl ?_
      refine qn_aload_n hX (pc := 83) dX8_settles_83 1 rfl rfl ?_
      refine qn_getR hX (pc := 84) fd_X8_settles_23 dX8_settles_84 k_x0 ?_
      refine qn_iload_n hX (pc := 87) dX8_settles_87 2 rfl rfl ?_
      obtain ⟨v10, e_v10, b_v10, h⟩ := rdA_e h
      have r_v10 : in32 v10 := by rw [e_v10]; exact hR_m7.a (n := 70) _ (qr_806 hT k_x0) (by decide)
      refine qn_iald hX (pc := 88) 70 dX8_settles_88 (qr_806 hT k_x0) (by decide) b_v10 e_v10 ?_
      obtain ⟨m11, e_m11, h⟩ := kb_e h
      refine qn_callVv hX (pc := 89) [.int (iZ v10)] [.int (iZ v10)] 1 dX8_settles_89 gX8_settles_X8_goes rfl dd_X8_goes ⟨rfl, rfl⟩ rfl rfl (by decide) k_x0 rfl rfl hR_m7 (k_X8_goes (xl X) hT k_x0 r_v10 e_m11) (fun r_v12 hR_m11 => ?_)
      refine qn_sub (ls' := [(0, .ref x0), (3, .int (iZ x3))]) [1, 2] rfl ?_
      exact w_X8_settles_92 hX hE hk46 k_x0 r_x3 hR_m11 h
set_option maxHeartbeats 4000000 in
set_option maxRecDepth 20000 in
theorem w_X8_settles_L46 {X : qB} {N : Nat} (hX : qOk X cX8_settles RX8 5 none wsX8_settles 2 45) {r : qM} (hE : xr X = none ∧ (True → xΦ X) ∧ xμ X = r) 
    {x0 : Nat} {x3 : Int} (k_x0 : gK (xG X) x0 = 9) (r_x3 : in32 x3) {m0 : qM} (hR_m0 : qR (xG X) m0)
    (h : f_X8_settles_L46 N (xG X)  x0 x3 m0 = some r) : qN X 5 46 [(0, .ref x0), (3, .int (iZ x3))] [] m0 := by
  unfold f_X8_settles_L46 at h
  exact qLoop_w (σ := Nat × Int × qM) (P := fun p => gK (xG X) p.1 = 9 ∧ in32 p.2.1 ∧ qR (xG X) p.2.2) (Q := fun p => qN X 5 46 [(0, .ref p.1), (3, .int (iZ p.2.1))] [] p.2.2) (fun k hrec p hp hh => w_X8_settles_46 hX hE (fun x0 x3 m0 q0 q1 hRm hh => hrec (x0, x3, m0) ⟨q0, q1, hRm⟩ hh) hp.1 hp.2.1 hp.2.2 hh) N (x0, x3, m0) ⟨k_x0, r_x3, hR_m0⟩ h
set_option maxHeartbeats 4000000 in
set_option maxRecDepth 20000 in
theorem w_X8_settles_39 {X : qB} {N : Nat} (hX : qOk X cX8_settles RX8 5 none wsX8_settles 2 45) {r : qM} (hE : xr X = none ∧ (True → xΦ X) ∧ xμ X = r) 
    {x0 : Nat} (k_x0 : gK (xG X) x0 = 9) {m0 : qM} (hR_m0 : qR (xG X) m0)
    (h : f_X8_settles_39 N (xG X)  x0 m0 = some r) : qN X 5 39 [(0, .ref x0)] [] m0 := by
  have hT := hX.T
  unfold f_X8_settles_39 at h
  refine qn_aload_n hX (pc := 39) dX8_settles_39 0 rfl rfl ?_
  refine qn_getI hX (pc := 40) fd_X8_settles_68 dX8_settles_40 k_x0 ?_
  refine qn_iconst hX (pc := 43) dX8_settles_43 ?_
  obtain ⟨v1, e_v1, r_v1, h⟩ := ckI_e h
  refine qn_isub hX (pc := 44) dX8_settles_44 e_v1 ?_
  refine qn_istore_n hX (pc := 45) (ls' := [(3, .int (iZ v1)), (0, .ref x0)]) dX8_settles_45 rfl rfl rfl ?_
  refine qn_sub (ls' := [(0, .ref x0), (3, .int (iZ v1))]) [1, 0] rfl ?_
  exact w_X8_settles_L46 hX hE  k_x0 r_v1 hR_m0 h
set_option maxHeartbeats 4000000 in
set_option maxRecDepth 20000 in
theorem w_X8_settles {X : qB} {N : Nat} (hX : qOk X cX8_settles RX8 5 none wsX8_settles 2 45) {r : qM} (hE : xr X = none ∧ (True → xΦ X) ∧ xμ X = r) 
    {x0 : Nat} {x1 : Int} {x2 : Int} (k_x0 : gK (xG X) x0 = 9) (r_x1 : in32 x1) (r_x2 : in32 x2) {m0 : qM} (hR_m0 : qR (xG X) m0)
    (h : f_X8_settles N (xG X)  x0 x1 x2 m0 = some r) : qN X 5 0 [(0, .ref x0), (1, .int (iZ x1)), (2, .int (iZ x2))] [] m0 := by
  have hT := hX.T
  unfold f_X8_settles at h
  refine qn_iload_n hX (pc := 0) dX8_settles_0 2 rfl rfl ?_
  refine qn_if_lt hX (pc := 1) r_x2 39 dX8_settles_1 (by decide) (fun c1 => ?_) (fun c1 => ?_)
  · have h := ite_t h c1
    refine qn_sub (ls' := [(0, .ref x0)]) [0] rfl ?_
    exact w_X8_settles_39 hX hE  k_x0 hR_m0 h
  · have h := ite_f h c1
    refine qn_aload_n hX (pc := 4) dX8_settles_4 0 rfl rfl ?_
    refine qn_getR hX (pc := 5) fd_X8_settles_7 dX8_settles_5 k_x0 ?_
    refine qn_bipush hX (pc := 8) dX8_settles_8 (by decide) ?_
    refine qn_iload_n hX (pc := 10) dX8_settles_10 1 rfl rfl ?_
    obtain ⟨v2, e_v2, r_v2, h⟩ := ckI_e h
    refine qn_iadd hX (pc := 11) dX8_settles_11 e_v2 ?_
    refine qn_dup2 hX (pc := 12) dX8_settles_12 rfl rfl ?_
    obtain ⟨v3, e_v3, b_v3, h⟩ := rdA_e h
    have r_v3 : in32 v3 := by rw [e_v3]; exact hR_m0.a (n := 684) _ (qr_800 hT k_x0) (by decide)
    refine qn_iald hX (pc := 13) 684 dX8_settles_13 (qr_800 hT k_x0) (by decide) b_v3 e_v3 ?_
    refine qn_aload_n hX (pc := 14) dX8_settles_14 0 rfl rfl ?_
    refine qn_getR hX (pc := 15) fd_X8_settles_29 dX8_settles_15 k_x0 ?_
    refine qn_iload_n hX (pc := 18) dX8_settles_18 2 rfl rfl ?_
    obtain ⟨v4, e_v4, b_v4, h⟩ := rdA_e h
    have r_v4 : in32 v4 := by rw [e_v4]; exact hR_m0.a (n := 70) _ (qr_808 hT k_x0) (by decide)
    refine qn_iald hX (pc := 19) 70 dX8_settles_19 (qr_808 hT k_x0) (by decide) b_v4 e_v4 ?_
    obtain ⟨v5, e_v5, r_v5, h⟩ := ckI_e h
    refine qn_isub hX (pc := 20) dX8_settles_20 e_v5 ?_
    obtain ⟨m6, e_m6, b_m6, h⟩ := wrA_e h
    refine qn_iast hX (pc := 21) 684 dX8_settles_21 (qr_800 hT k_x0) (by decide) b_m6 hR_m0 r_v5 e_m6 (fun hR_m6 => ?_) 
    refine qn_aload_n hX (pc := 22) dX8_settles_22 0 rfl rfl ?_
    refine qn_getR hX (pc := 23) fd_X8_settles_7 dX8_settles_23 k_x0 ?_
    refine qn_bipush hX (pc := 26) dX8_settles_26 (by decide) ?_
    refine qn_iload_n hX (pc := 28) dX8_settles_28 1 rfl rfl ?_
    obtain ⟨v7, e_v7, r_v7, h⟩ := ckI_e h
    refine qn_iadd hX (pc := 29) dX8_settles_29 e_v7 ?_
    obtain ⟨v8, e_v8, b_v8, h⟩ := rdA_e h
    have r_v8 : in32 v8 := by rw [e_v8]; exact hR_m6.a (n := 684) _ (qr_800 hT k_x0) (by decide)
    refine qn_iald hX (pc := 30) 684 dX8_settles_30 (qr_800 hT k_x0) (by decide) b_v8 e_v8 ?_
    refine qn_if_ne hX (pc := 31) r_v8 39 dX8_settles_31 (by decide) (fun c9 => ?_) (fun c9 => ?_)
    · have h := ite_f h c9
      refine qn_sub (ls' := [(0, .ref x0)]) [0] rfl ?_
      exact w_X8_settles_39 hX hE  k_x0 hR_m6 h
    · have h := ite_t h c9
      refine qn_aload_n hX (pc := 34) dX8_settles_34 0 rfl rfl ?_
      refine qn_iload_n hX (pc := 35) dX8_settles_35 1 rfl rfl ?_
      obtain ⟨m10, e_m10, h⟩ := kb_e h
      refine qn_callVv hX (pc := 36) [.int (iZ x1)] [.int (iZ x1)] 1 dX8_settles_36 gX8_settles_X8_lapses rfl dd_X8_lapses ⟨rfl, rfl⟩ rfl rfl (by decide) k_x0 rfl rfl hR_m6 (k_X8_lapses (xl X) hT k_x0 r_x1 e_m10) (fun r_v11 hR_m10 => ?_)
      refine qn_sub (ls' := [(0, .ref x0)]) [0] rfl ?_
      exact w_X8_settles_39 hX hE  k_x0 hR_m10 h
theorem k_X8_settles (l : Launch) {G : qG} (hT : qT G) {N : Nat} {x0 : Nat} {x1 : Int} {x2 : Int} (k_x0 : gK G x0 = 9) (r_x1 : in32 x1) (r_x2 : in32 x2) {m0 : qM} {r : qM} (h : f_X8_settles N G x0 x1 x2 m0 = some r) : qC l yX8_settles wsX8_settles 2 45 G [.ref x0, .int (iZ x1), .int (iZ x2)] m0 none True r := by
  refine qn_start (hy := by decide) hT (hw := rfl) (hn := Nat.le_of_ble_eq_true rfl) ?_
  intro X h1 h2 h3 h4 hX hR
  subst h4
  exact w_X8_settles hX ⟨h1, fun q => h2 ▸ q, h3⟩ k_x0 r_x1 r_x2 hR h
theorem dd_X8_settles : yX8_settles.cls = RX8 ∧ yX8_settles.cls ≠ "java/lang/invoke/MethodHandle" ∧ yX8_settles.cls ≠ "java/lang/invoke/VarHandle" ∧ (parseMethodDescriptor yX8_settles.desc).map (fun d => d.parameters.length) = some 2 := by decide +kernel
