/-! MACHINE: the law walks as its pure functions say -/
set_option maxHeartbeats 4000000 in
set_option maxRecDepth 20000 in
theorem w_Lb_302 {Y : lB} {L : Nat} {xs : Nat → Int32} {ρ : Nat → Nat × Nat} {x : Nat} {sa : Nat × Nat × Nat} {N nn : Nat} {Ω : oB} (hF : yF Y L xs ρ x sa) (hΩ : yOk Y xs L x sa Ω) (hnn : nn < 1000) {res : Int × Int × Int × Int × Int × Nat × Int × Int × Int × qM × qM × Nat} (hE : ∀ (p q : qM) (c : Nat) (x2 : Int) (x3 : Int) (x4 : Int) (x5 : Int) (x7 : Int) (x8 : Nat) (x9 : Int) (x10 : Int) (x11 : Int), in32 x2 → in32 x3 → in32 x4 → in32 x5 → in32 x7 → gK (y8 Y) x8 = 1000 + nn → in32 x9 → in32 x10 → in32 x11 → qR (y7 Y) p → qR (y8 Y) q → res = (x2, x3, x4, x5, x7, x8, x9, x10, x11, p, q, c) → yN Y c 317 [(0, .ref (ya Y)), (1, .ref x), (2, .int (iZ x2)), (3, .int (iZ x3)), (4, .int (iZ x4)), (5, .int (iZ x5)), (7, .int (iZ x7)), (8, .ref x8), (9, .int (iZ x9)), (10, .int (iZ x10)), (11, .int (iZ x11))] [.int (iZ x5), .int (iZ 3)] p q) 
    {x2 : Int} {x3 : Int} {x4 : Int} {x5 : Int} {x7 : Int} {x8 : Nat} {x9 : Int} {x10 : Int} (r_x2 : in32 x2) (r_x3 : in32 x3) (r_x4 : in32 x4) (r_x5 : in32 x5) (r_x7 : in32 x7) (k_x8 : gK (y8 Y) x8 = 1000 + nn) (r_x9 : in32 x9) (r_x10 : in32 x10) {p0 q0 : qM} {c0 : Nat} (hR_p0 : qR (y7 Y) p0) (hR_q0 : qR (y8 Y) q0)
    (h : f_Lb_302 N (y7 Y) x Ω (gK (y8 Y)) nn  x2 x3 x4 x5 x7 x8 x9 x10 p0 q0 c0 = some res) : yN Y c0 302 [(0, .ref (ya Y)), (1, .ref x), (2, .int (iZ x2)), (3, .int (iZ x3)), (4, .int (iZ x4)), (5, .int (iZ x5)), (7, .int (iZ x7)), (8, .ref x8), (9, .int (iZ x9)), (10, .int (iZ x10))] [] p0 q0 := by
  unfold f_Lb_302 at h
  refine p_iconst hF (pc := 302) dL_law_302 ?_
  refine p_aload_n hF (pc := 303) dL_law_303 0 rfl rfl ?_
  refine p_bipush hF (pc := 304) dL_law_304 (by decide) ?_
  refine p_iload hF (pc := 306) dL_law_306 8 rfl ?_
  obtain ⟨v1, e_v1, b_v1, h⟩ := rdW_e h
  rw [hΩ.1] at e_v1
  have r_v1 : in32 v1 := sSome_32 e_v1 b_v1.2
  refine p_some hF (pc := 308) b_v1.1 b_v1.2 dL_law_308 rfl ?_
  rw [← e_v1]
  obtain ⟨v2, e_v2, r_v2, h⟩ := ckI_e h
  refine p_iadd hF (pc := 311) dL_law_311 e_v2 ?_
  refine p_istore hF (pc := 312) (ls' := [(11, .int (iZ v2)), (0, .ref (ya Y)), (1, .ref x), (2, .int (iZ x2)), (3, .int (iZ x3)), (4, .int (iZ x4)), (5, .int (iZ x5)), (7, .int (iZ x7)), (8, .ref x8), (9, .int (iZ x9)), (10, .int (iZ x10))]) dL_law_312 rfl rfl ?_
  refine p_iconst hF (pc := 314) dL_law_314 ?_
  refine p_iload hF (pc := 315) dL_law_315 6 rfl ?_
  refine p_sub (ls' := [(0, .ref (ya Y)), (1, .ref x), (2, .int (iZ x2)), (3, .int (iZ x3)), (4, .int (iZ x4)), (5, .int (iZ x5)), (7, .int (iZ x7)), (8, .ref x8), (9, .int (iZ x9)), (10, .int (iZ x10)), (11, .int (iZ v2))]) [1, 2, 3, 4, 5, 6, 7, 8, 9, 10, 0] rfl ?_
  exact hE _ _ _ _ _ _ _ _ _ _ _ _ r_x2 r_x3 r_x4 r_x5 r_x7 k_x8 r_x9 r_x10 r_v2 hR_p0 hR_q0 (Option.some.inj h).symm
set_option maxHeartbeats 4000000 in
set_option maxRecDepth 20000 in
theorem w_Lb_268 {Y : lB} {L : Nat} {xs : Nat → Int32} {ρ : Nat → Nat × Nat} {x : Nat} {sa : Nat × Nat × Nat} {N nn : Nat} {Ω : oB} (hF : yF Y L xs ρ x sa) (hΩ : yOk Y xs L x sa Ω) (hnn : nn < 1000) {res : Int × Int × Int × Int × Int × Nat × Int × Int × Int × qM × qM × Nat} (hE : ∀ (p q : qM) (c : Nat) (x2 : Int) (x3 : Int) (x4 : Int) (x5 : Int) (x7 : Int) (x8 : Nat) (x9 : Int) (x10 : Int) (x11 : Int), in32 x2 → in32 x3 → in32 x4 → in32 x5 → in32 x7 → gK (y8 Y) x8 = 1000 + nn → in32 x9 → in32 x10 → in32 x11 → qR (y7 Y) p → qR (y8 Y) q → res = (x2, x3, x4, x5, x7, x8, x9, x10, x11, p, q, c) → yN Y c 317 [(0, .ref (ya Y)), (1, .ref x), (2, .int (iZ x2)), (3, .int (iZ x3)), (4, .int (iZ x4)), (5, .int (iZ x5)), (7, .int (iZ x7)), (8, .ref x8), (9, .int (iZ x9)), (10, .int (iZ x10)), (11, .int (iZ x11))] [.int (iZ x5), .int (iZ 3)] p q) 
    {x2 : Int} {x3 : Int} {x4 : Int} {x5 : Int} {x7 : Int} {x8 : Nat} {x9 : Int} {x10 : Int} {s0 : Int} {s1 : Int} (r_x2 : in32 x2) (r_x3 : in32 x3) (r_x4 : in32 x4) (r_x5 : in32 x5) (r_x7 : in32 x7) (k_x8 : gK (y8 Y) x8 = 1000 + nn) (r_x9 : in32 x9) (r_x10 : in32 x10) (r_s0 : in32 s0) (r_s1 : in32 s1) {p0 q0 : qM} {c0 : Nat} (hR_p0 : qR (y7 Y) p0) (hR_q0 : qR (y8 Y) q0)
    (h : f_Lb_268 N (y7 Y) x Ω (gK (y8 Y)) nn  x2 x3 x4 x5 x7 x8 x9 x10 s0 s1 p0 q0 c0 = some res) : yN Y c0 268 [(0, .ref (ya Y)), (1, .ref x), (2, .int (iZ x2)), (3, .int (iZ x3)), (4, .int (iZ x4)), (5, .int (iZ x5)), (7, .int (iZ x7)), (8, .ref x8), (9, .int (iZ x9)), (10, .int (iZ x10))] [.int (iZ s1), .int (iZ s0)] p0 q0 := by
  unfold f_Lb_268 at h
  refine p_icmp_ne hF (pc := 268) r_s0 r_s1 300 dL_law_268 (by decide) (fun t1 => ?_) (fun t1 => ?_)
  · have h := ite_f h t1
    cases h
  · have h := ite_t h t1
    refine p_aload_n hF (pc := 271) dL_law_271 1 rfl rfl ?_
    refine p_iload hF (pc := 272) dL_law_272 6 rfl ?_
    refine p_iconst hF (pc := 274) dL_law_274 ?_
    obtain ⟨v2, e_v2, h⟩ := kb_e h
    refine p_call7 hF (pc := 275) [.int (iZ x7), .int (iZ 5)] [.int (iZ 5), .int (iZ x7)] 2 dL_law_275 gL_law_Y_of rfl dd_X7_of ⟨rfl, rfl⟩ rfl rfl rfl (hΩ.2.1 p0 _ _ r_x7 e_v2 (yl Y)) (fun r_v2 _ => ?_)
    refine p_iload_n hF (pc := 278) dL_law_278 2 rfl rfl ?_
    refine p_icmp_ne hF (pc := 279) r_v2 r_x2 300 dL_law_279 (by decide) (fun t3 => ?_) (fun t3 => ?_)
    · have h := ite_f h t3
      cases h
    · have h := ite_t h t3
      refine p_iload hF (pc := 282) dL_law_282 5 rfl ?_
      refine p_iconst hF (pc := 284) dL_law_284 ?_
      refine p_icmp_le hF (pc := 285) r_x5 (by decide) 302 dL_law_285 (by decide) (fun t4 => ?_) (fun t4 => ?_)
      · have h := ite_f h t4
        refine p_sub (ls' := [(0, .ref (ya Y)), (1, .ref x), (2, .int (iZ x2)), (3, .int (iZ x3)), (4, .int (iZ x4)), (5, .int (iZ x5)), (7, .int (iZ x7)), (8, .ref x8), (9, .int (iZ x9)), (10, .int (iZ x10))]) [0, 1, 2, 3, 4, 5, 6, 7, 8, 9] rfl ?_
        exact w_Lb_302 hF hΩ hnn hE  r_x2 r_x3 r_x4 r_x5 r_x7 k_x8 r_x9 r_x10 hR_p0 hR_q0 h
      · have h := ite_t h t4
        refine p_aload_n hF (pc := 288) dL_law_288 1 rfl rfl ?_
        refine p_iload hF (pc := 289) dL_law_289 6 rfl ?_
        refine p_iconst hF (pc := 291) dL_law_291 ?_
        obtain ⟨v5, e_v5, r_v5, h⟩ := ckI_e h
        refine p_iadd hF (pc := 292) dL_law_292 e_v5 ?_
        refine p_iconst hF (pc := 293) dL_law_293 ?_
        obtain ⟨v6, e_v6, h⟩ := kb_e h
        refine p_call7 hF (pc := 294) [.int (iZ v5), .int (iZ 5)] [.int (iZ 5), .int (iZ v5)] 2 dL_law_294 gL_law_Y_of rfl dd_X7_of ⟨rfl, rfl⟩ rfl rfl rfl (hΩ.2.1 p0 _ _ r_v5 e_v6 (yl Y)) (fun r_v6 _ => ?_)
        refine p_if_eq hF (pc := 297) r_v6 302 dL_law_297 (by decide) (fun t7 => ?_) (fun t7 => ?_)
        · have h := ite_t h t7
          refine p_sub (ls' := [(0, .ref (ya Y)), (1, .ref x), (2, .int (iZ x2)), (3, .int (iZ x3)), (4, .int (iZ x4)), (5, .int (iZ x5)), (7, .int (iZ x7)), (8, .ref x8), (9, .int (iZ x9)), (10, .int (iZ x10))]) [0, 1, 2, 3, 4, 5, 6, 7, 8, 9] rfl ?_
          exact w_Lb_302 hF hΩ hnn hE  r_x2 r_x3 r_x4 r_x5 r_x7 k_x8 r_x9 r_x10 hR_p0 hR_q0 h
        · have h := ite_f h t7
          cases h
set_option maxHeartbeats 4000000 in
set_option maxRecDepth 20000 in
theorem w_Lb_249 {Y : lB} {L : Nat} {xs : Nat → Int32} {ρ : Nat → Nat × Nat} {x : Nat} {sa : Nat × Nat × Nat} {N nn : Nat} {Ω : oB} (hF : yF Y L xs ρ x sa) (hΩ : yOk Y xs L x sa Ω) (hnn : nn < 1000) {res : Int × Int × Int × Int × Int × Nat × Int × Int × Int × qM × qM × Nat} (hE : ∀ (p q : qM) (c : Nat) (x2 : Int) (x3 : Int) (x4 : Int) (x5 : Int) (x7 : Int) (x8 : Nat) (x9 : Int) (x10 : Int) (x11 : Int), in32 x2 → in32 x3 → in32 x4 → in32 x5 → in32 x7 → gK (y8 Y) x8 = 1000 + nn → in32 x9 → in32 x10 → in32 x11 → qR (y7 Y) p → qR (y8 Y) q → res = (x2, x3, x4, x5, x7, x8, x9, x10, x11, p, q, c) → yN Y c 317 [(0, .ref (ya Y)), (1, .ref x), (2, .int (iZ x2)), (3, .int (iZ x3)), (4, .int (iZ x4)), (5, .int (iZ x5)), (7, .int (iZ x7)), (8, .ref x8), (9, .int (iZ x9)), (10, .int (iZ x10)), (11, .int (iZ x11))] [.int (iZ x5), .int (iZ 3)] p q) 
    {x2 : Int} {x3 : Int} {x4 : Int} {x5 : Int} {x7 : Int} {x8 : Nat} {x9 : Int} {s0 : Int} (r_x2 : in32 x2) (r_x3 : in32 x3) (r_x4 : in32 x4) (r_x5 : in32 x5) (r_x7 : in32 x7) (k_x8 : gK (y8 Y) x8 = 1000 + nn) (r_x9 : in32 x9) (r_s0 : in32 s0) {p0 q0 : qM} {c0 : Nat} (hR_p0 : qR (y7 Y) p0) (hR_q0 : qR (y8 Y) q0)
    (h : f_Lb_249 N (y7 Y) x Ω (gK (y8 Y)) nn  x2 x3 x4 x5 x7 x8 x9 s0 p0 q0 c0 = some res) : yN Y c0 249 [(0, .ref (ya Y)), (1, .ref x), (2, .int (iZ x2)), (3, .int (iZ x3)), (4, .int (iZ x4)), (5, .int (iZ x5)), (7, .int (iZ x7)), (8, .ref x8), (9, .int (iZ x9))] [.int (iZ s0)] p0 q0 := by
  unfold f_Lb_249 at h
  refine p_istore hF (pc := 249) (ls' := [(10, .int (iZ s0)), (0, .ref (ya Y)), (1, .ref x), (2, .int (iZ x2)), (3, .int (iZ x3)), (4, .int (iZ x4)), (5, .int (iZ x5)), (7, .int (iZ x7)), (8, .ref x8), (9, .int (iZ x9))]) dL_law_249 rfl rfl ?_
  refine p_aload_n hF (pc := 251) dL_law_251 2 rfl rfl ?_
  refine p_iload hF (pc := 252) dL_law_252 5 rfl ?_
  obtain ⟨v2, p1, e_p1, h⟩ := kb2_e h
  refine p_call7 hF (pc := 254) [.int (iZ x4)] [.int (iZ x4)] 1 dL_law_254 (goodIn_l gL_law_X7_top) rfl dd_X7_top ⟨rfl, rfl⟩ rfl rfl rfl (k_X7_top (yl Y) hF.T7 hF.k7 r_x4 e_p1) (fun r_v2 hR_p1 => ?_)
  refine p_iload hF (pc := 257) dL_law_257 0 rfl ?_
  refine p_if_eq hF (pc := 259) r_s0 267 dL_law_259 (by decide) (fun t3 => ?_) (fun t3 => ?_)
  · have h := ite_t h t3
    refine p_iconst hF (pc := 267) dL_law_267 ?_
    refine p_sub (ls' := [(0, .ref (ya Y)), (1, .ref x), (2, .int (iZ x2)), (3, .int (iZ x3)), (4, .int (iZ x4)), (5, .int (iZ x5)), (7, .int (iZ x7)), (8, .ref x8), (9, .int (iZ x9)), (10, .int (iZ s0))]) [1, 2, 3, 4, 5, 6, 7, 8, 9, 0] rfl ?_
    exact w_Lb_268 hF hΩ hnn hE  r_x2 r_x3 r_x4 r_x5 r_x7 k_x8 r_x9 r_s0 r_v2 (by decide) hR_p1 hR_q0 h
  · have h := ite_f h t3
    refine p_iload hF (pc := 262) dL_law_262 7 rfl ?_
    refine p_goto hF (pc := 264) 268 dL_law_264 (by decide) ?_
    refine p_sub (ls' := [(0, .ref (ya Y)), (1, .ref x), (2, .int (iZ x2)), (3, .int (iZ x3)), (4, .int (iZ x4)), (5, .int (iZ x5)), (7, .int (iZ x7)), (8, .ref x8), (9, .int (iZ x9)), (10, .int (iZ s0))]) [1, 2, 3, 4, 5, 6, 7, 8, 9, 0] rfl ?_
    exact w_Lb_268 hF hΩ hnn hE  r_x2 r_x3 r_x4 r_x5 r_x7 k_x8 r_x9 r_s0 r_v2 r_x7 hR_p1 hR_q0 h
set_option maxHeartbeats 4000000 in
set_option maxRecDepth 20000 in
theorem w_Lb_193 {Y : lB} {L : Nat} {xs : Nat → Int32} {ρ : Nat → Nat × Nat} {x : Nat} {sa : Nat × Nat × Nat} {N nn : Nat} {Ω : oB} (hF : yF Y L xs ρ x sa) (hΩ : yOk Y xs L x sa Ω) (hnn : nn < 1000) {res : Int × Int × Int × Int × Int × Nat × Int × Int × Int × qM × qM × Nat} (hE : ∀ (p q : qM) (c : Nat) (x2 : Int) (x3 : Int) (x4 : Int) (x5 : Int) (x7 : Int) (x8 : Nat) (x9 : Int) (x10 : Int) (x11 : Int), in32 x2 → in32 x3 → in32 x4 → in32 x5 → in32 x7 → gK (y8 Y) x8 = 1000 + nn → in32 x9 → in32 x10 → in32 x11 → qR (y7 Y) p → qR (y8 Y) q → res = (x2, x3, x4, x5, x7, x8, x9, x10, x11, p, q, c) → yN Y c 317 [(0, .ref (ya Y)), (1, .ref x), (2, .int (iZ x2)), (3, .int (iZ x3)), (4, .int (iZ x4)), (5, .int (iZ x5)), (7, .int (iZ x7)), (8, .ref x8), (9, .int (iZ x9)), (10, .int (iZ x10)), (11, .int (iZ x11))] [.int (iZ x5), .int (iZ 3)] p q) {k158 : (Int → Int → Int → Int → Int → Nat → Int → Int → qM → qM → Nat → Option (Int × Int × Int × Int × Int × Nat × Int × Int × Int × qM × qM × Nat))} (hk158 : ∀ (x2 : Int) (x3 : Int) (x4 : Int) (x5 : Int) (x7 : Int) (x8 : Nat) (x9 : Int) (x10 : Int) (p0 q0 : qM) (c0 : Nat), in32 x2 → in32 x3 → in32 x4 → in32 x5 → in32 x7 → gK (y8 Y) x8 = 1000 + nn → in32 x9 → in32 x10 → qR (y7 Y) p0 → qR (y8 Y) q0 → k158 x2 x3 x4 x5 x7 x8 x9 x10 p0 q0 c0 = some res → yN Y c0 158 [(0, .ref (ya Y)), (1, .ref x), (2, .int (iZ x2)), (3, .int (iZ x3)), (4, .int (iZ x4)), (5, .int (iZ x5)), (7, .int (iZ x7)), (8, .ref x8), (9, .int (iZ x9)), (10, .int (iZ x10))] [] p0 q0)
    {x2 : Int} {x3 : Int} {x4 : Int} {x5 : Int} {x7 : Int} {x8 : Nat} {x9 : Int} {x10 : Int} {s0 : Nat} {s1 : Int} {s2 : Int} {s4 : Int} {s5 : Int} (r_x2 : in32 x2) (r_x3 : in32 x3) (r_x4 : in32 x4) (r_x5 : in32 x5) (r_x7 : in32 x7) (k_x8 : gK (y8 Y) x8 = 1000 + nn) (r_x9 : in32 x9) (r_x10 : in32 x10) (k_s0 : gK (y8 Y) s0 = 1000 + nn) (r_s1 : in32 s1) (r_s2 : in32 s2) (r_s4 : in32 s4) (r_s5 : in32 s5) {p0 q0 : qM} {c0 : Nat} (hR_p0 : qR (y7 Y) p0) (hR_q0 : qR (y8 Y) q0)
    (h : f_Lb_193 N (y7 Y) x Ω (gK (y8 Y)) nn k158 x2 x3 x4 x5 x7 x8 x9 x10 s0 s1 s2 s4 s5 p0 q0 c0 = some res) : yN Y c0 193 [(0, .ref (ya Y)), (1, .ref x), (2, .int (iZ x2)), (3, .int (iZ x3)), (4, .int (iZ x4)), (5, .int (iZ x5)), (7, .int (iZ x7)), (8, .ref x8), (9, .int (iZ x9)), (10, .int (iZ x10))] [.int (iZ s5), .int (iZ s4), .ref (ya Y), .int (iZ s2), .int (iZ s1), .ref s0] p0 q0 := by
  unfold f_Lb_193 at h
  obtain ⟨v1, e_v1, b_v1, h⟩ := rdW_e h
  rw [hΩ.1] at e_v1
  have r_v1 : in32 v1 := sSome_32 e_v1 b_v1.2
  refine p_some hF (pc := 193) b_v1.1 b_v1.2 dL_law_193 rfl ?_
  rw [← e_v1]
  obtain ⟨v2, e_v2, r_v2, h⟩ := ckI_e h
  refine p_iadd hF (pc := 196) dL_law_196 e_v2 ?_
  obtain ⟨q3, e_q3, b_q3, h⟩ := wrA_e h
  refine p_iast hF (pc := 197) nn dL_law_197 k_s0 hnn b_q3 hR_q0 r_v2 e_q3 (fun hR_q3 => ?_) 
  refine p_iload hF (pc := 198) dL_law_198 8 rfl ?_
  refine p_aload hF (pc := 200) dL_law_200 7 rfl ?_
  refine p_iload hF (pc := 202) dL_law_202 9 rfl ?_
  obtain ⟨v4, e_v4, b_v4, h⟩ := rdA_e h
  have r_v4 : in32 v4 := by rw [e_v4]; exact hR_q3.a (n := nn) _ k_x8 hnn
  refine p_iald hF (pc := 204) nn dL_law_204 k_x8 hnn b_v4 e_v4 ?_
  obtain ⟨v5, e_v5, r_v5, h⟩ := ckI_e h
  refine p_iadd hF (pc := 205) dL_law_205 e_v5 ?_
  refine p_istore hF (pc := 206) (ls' := [(9, .int (iZ v5)), (0, .ref (ya Y)), (1, .ref x), (2, .int (iZ x2)), (3, .int (iZ x3)), (4, .int (iZ x4)), (5, .int (iZ x5)), (7, .int (iZ x7)), (8, .ref x8), (10, .int (iZ x10))]) dL_law_206 rfl rfl ?_
  refine p_aload_n hF (pc := 208) dL_law_208 2 rfl rfl ?_
  refine p_iload hF (pc := 209) dL_law_209 9 rfl ?_
  refine p_iload hF (pc := 211) dL_law_211 5 rfl ?_
  refine p_bipush hF (pc := 213) dL_law_213 (by decide) ?_
  refine p_aload hF (pc := 215) dL_law_215 8 rfl ?_
  refine p_iload hF (pc := 217) dL_law_217 9 rfl ?_
  obtain ⟨v6, e_v6, b_v6, h⟩ := rdA_e h
  have r_v6 : in32 v6 := by rw [e_v6]; exact hR_q3.a (n := nn) _ k_x8 hnn
  refine p_iald hF (pc := 219) nn dL_law_219 k_x8 hnn b_v6 e_v6 ?_
  refine p_iconst hF (pc := 220) dL_law_220 ?_
  obtain ⟨v8, p7, e_p7, h⟩ := kb2_e h
  refine p_call7 hF (pc := 221) [.int (iZ x10), .int (iZ x4), .int (iZ 100), .int (iZ v6), .int (iZ 0)] [.int (iZ 0), .int (iZ v6), .int (iZ 100), .int (iZ x4), .int (iZ x10)] 5 dL_law_221 (goodIn_l gL_law_X7_order) rfl dd_X7_order ⟨rfl, rfl⟩ rfl rfl rfl (k_X7_order (yl Y) hF.T7 hF.k7 r_x10 r_x4 (show in32 100 by decide) r_v6 (show in32 0 by decide) e_p7) (fun r_v8 hR_p7 => ?_)
  refine p_iload hF (pc := 224) dL_law_224 7 rfl ?_
  refine p_iload hF (pc := 226) dL_law_226 9 rfl ?_
  obtain ⟨v9, e_v9, r_v9, h⟩ := ckI_e h
  refine p_iadd hF (pc := 228) dL_law_228 e_v9 ?_
  refine p_icmp_eq hF (pc := 229) r_v8 r_v9 234 dL_law_229 (by decide) (fun t10 => ?_) (fun t10 => ?_)
  · have h := ite_t h t10
    obtain ⟨v11, e_v11, r_v11, h⟩ := ckI_e h
    refine p_iinc hF (pc := 234) (ls' := [(10, .int (iZ v11)), (9, .int (iZ v5)), (0, .ref (ya Y)), (1, .ref x), (2, .int (iZ x2)), (3, .int (iZ x3)), (4, .int (iZ x4)), (5, .int (iZ x5)), (7, .int (iZ x7)), (8, .ref x8)]) dL_law_234 9 rfl e_v11 rfl rfl ?_
    refine p_goto hF (pc := 237) 158 dL_law_237 (by decide) ?_
    refine p_sub (ls' := [(0, .ref (ya Y)), (1, .ref x), (2, .int (iZ x2)), (3, .int (iZ x3)), (4, .int (iZ x4)), (5, .int (iZ x5)), (7, .int (iZ x7)), (8, .ref x8), (9, .int (iZ v5)), (10, .int (iZ v11))]) [2, 3, 4, 5, 6, 7, 8, 9, 1, 0] rfl ?_
    exact hk158 x2 x3 x4 x5 x7 x8 v5 v11 p7 q3 c0 r_x2 r_x3 r_x4 r_x5 r_x7 k_x8 r_v5 r_v11 hR_p7 hR_q3 h
  · have h := ite_f h t10
    cases h
set_option maxHeartbeats 4000000 in
set_option maxRecDepth 20000 in
theorem w_Lb_158 {Y : lB} {L : Nat} {xs : Nat → Int32} {ρ : Nat → Nat × Nat} {x : Nat} {sa : Nat × Nat × Nat} {N nn : Nat} {Ω : oB} (hF : yF Y L xs ρ x sa) (hΩ : yOk Y xs L x sa Ω) (hnn : nn < 1000) {res : Int × Int × Int × Int × Int × Nat × Int × Int × Int × qM × qM × Nat} (hE : ∀ (p q : qM) (c : Nat) (x2 : Int) (x3 : Int) (x4 : Int) (x5 : Int) (x7 : Int) (x8 : Nat) (x9 : Int) (x10 : Int) (x11 : Int), in32 x2 → in32 x3 → in32 x4 → in32 x5 → in32 x7 → gK (y8 Y) x8 = 1000 + nn → in32 x9 → in32 x10 → in32 x11 → qR (y7 Y) p → qR (y8 Y) q → res = (x2, x3, x4, x5, x7, x8, x9, x10, x11, p, q, c) → yN Y c 317 [(0, .ref (ya Y)), (1, .ref x), (2, .int (iZ x2)), (3, .int (iZ x3)), (4, .int (iZ x4)), (5, .int (iZ x5)), (7, .int (iZ x7)), (8, .ref x8), (9, .int (iZ x9)), (10, .int (iZ x10)), (11, .int (iZ x11))] [.int (iZ x5), .int (iZ 3)] p q) {k158 : (Int → Int → Int → Int → Int → Nat → Int → Int → qM → qM → Nat → Option (Int × Int × Int × Int × Int × Nat × Int × Int × Int × qM × qM × Nat))} (hk158 : ∀ (x2 : Int) (x3 : Int) (x4 : Int) (x5 : Int) (x7 : Int) (x8 : Nat) (x9 : Int) (x10 : Int) (p0 q0 : qM) (c0 : Nat), in32 x2 → in32 x3 → in32 x4 → in32 x5 → in32 x7 → gK (y8 Y) x8 = 1000 + nn → in32 x9 → in32 x10 → qR (y7 Y) p0 → qR (y8 Y) q0 → k158 x2 x3 x4 x5 x7 x8 x9 x10 p0 q0 c0 = some res → yN Y c0 158 [(0, .ref (ya Y)), (1, .ref x), (2, .int (iZ x2)), (3, .int (iZ x3)), (4, .int (iZ x4)), (5, .int (iZ x5)), (7, .int (iZ x7)), (8, .ref x8), (9, .int (iZ x9)), (10, .int (iZ x10))] [] p0 q0)
    {x2 : Int} {x3 : Int} {x4 : Int} {x5 : Int} {x7 : Int} {x8 : Nat} {x9 : Int} {x10 : Int} (r_x2 : in32 x2) (r_x3 : in32 x3) (r_x4 : in32 x4) (r_x5 : in32 x5) (r_x7 : in32 x7) (k_x8 : gK (y8 Y) x8 = 1000 + nn) (r_x9 : in32 x9) (r_x10 : in32 x10) {p0 q0 : qM} {c0 : Nat} (hR_p0 : qR (y7 Y) p0) (hR_q0 : qR (y8 Y) q0)
    (h : f_Lb_158 N (y7 Y) x Ω (gK (y8 Y)) nn k158 x2 x3 x4 x5 x7 x8 x9 x10 p0 q0 c0 = some res) : yN Y c0 158 [(0, .ref (ya Y)), (1, .ref x), (2, .int (iZ x2)), (3, .int (iZ x3)), (4, .int (iZ x4)), (5, .int (iZ x5)), (7, .int (iZ x7)), (8, .ref x8), (9, .int (iZ x9)), (10, .int (iZ x10))] [] p0 q0 := by
  unfold f_Lb_158 at h
  refine p_iload hF (pc := 158) dL_law_158 9 rfl ?_
  refine p_iload hF (pc := 160) dL_law_160 5 rfl ?_
  refine p_icmp_ge hF (pc := 162) r_x10 r_x5 240 dL_law_162 (by decide) (fun t1 => ?_) (fun t1 => ?_)
  · have h := ite_f h t1
    refine p_iload_n hF (pc := 240) dL_law_240 2 rfl rfl ?_
    refine p_if_le hF (pc := 241) r_x2 248 dL_law_241 (by decide) (fun t2 => ?_) (fun t2 => ?_)
    · have h := ite_f h t2
      refine p_iconst hF (pc := 248) dL_law_248 ?_
      refine p_sub (ls' := [(0, .ref (ya Y)), (1, .ref x), (2, .int (iZ x2)), (3, .int (iZ x3)), (4, .int (iZ x4)), (5, .int (iZ x5)), (7, .int (iZ x7)), (8, .ref x8), (9, .int (iZ x9))]) [0, 1, 2, 3, 4, 5, 6, 7, 8] rfl ?_
      exact w_Lb_249 hF hΩ hnn hE  r_x2 r_x3 r_x4 r_x5 r_x7 k_x8 r_x9 (by decide) hR_p0 hR_q0 h
    · have h := ite_t h t2
      refine p_iconst hF (pc := 244) dL_law_244 ?_
      refine p_goto hF (pc := 245) 249 dL_law_245 (by decide) ?_
      refine p_sub (ls' := [(0, .ref (ya Y)), (1, .ref x), (2, .int (iZ x2)), (3, .int (iZ x3)), (4, .int (iZ x4)), (5, .int (iZ x5)), (7, .int (iZ x7)), (8, .ref x8), (9, .int (iZ x9))]) [0, 1, 2, 3, 4, 5, 6, 7, 8] rfl ?_
      exact w_Lb_249 hF hΩ hnn hE  r_x2 r_x3 r_x4 r_x5 r_x7 k_x8 r_x9 (by decide) hR_p0 hR_q0 h
  · have h := ite_t h t1
    refine p_aload hF (pc := 165) dL_law_165 7 rfl ?_
    refine p_iload hF (pc := 167) dL_law_167 9 rfl ?_
    refine p_iconst hF (pc := 169) dL_law_169 ?_
    refine p_aload_n hF (pc := 170) dL_law_170 0 rfl rfl ?_
    refine p_iconst hF (pc := 171) dL_law_171 ?_
    refine p_iload hF (pc := 172) dL_law_172 9 rfl ?_
    obtain ⟨v3, e_v3, r_v3, h⟩ := ckI_e h
    refine p_iadd hF (pc := 174) dL_law_174 e_v3 ?_
    refine p_aload_n hF (pc := 175) dL_law_175 0 rfl rfl ?_
    refine p_bipush hF (pc := 176) dL_law_176 (by decide) ?_
    refine p_iconst hF (pc := 178) dL_law_178 ?_
    obtain ⟨v4, e_v4, b_v4, h⟩ := rdW_e h
    rw [hΩ.1] at e_v4
    have r_v4 : in32 v4 := sSome_32 e_v4 b_v4.2
    refine p_some hF (pc := 179) b_v4.1 b_v4.2 dL_law_179 rfl ?_
    rw [← e_v4]
    refine p_if_ne hF (pc := 182) r_v4 190 dL_law_182 (by decide) (fun t5 => ?_) (fun t5 => ?_)
    · have h := ite_f h t5
      refine p_sipush hF (pc := 190) dL_law_190 (by decide) ?_
      refine p_sub (ls' := [(0, .ref (ya Y)), (1, .ref x), (2, .int (iZ x2)), (3, .int (iZ x3)), (4, .int (iZ x4)), (5, .int (iZ x5)), (7, .int (iZ x7)), (8, .ref x8), (9, .int (iZ x9)), (10, .int (iZ x10))]) [0, 1, 2, 3, 4, 5, 6, 7, 8, 9] rfl ?_
      exact w_Lb_193 hF hΩ hnn hE hk158 r_x2 r_x3 r_x4 r_x5 r_x7 k_x8 r_x9 r_x10 k_x8 r_x10 (by decide) r_v3 (by decide) hR_p0 hR_q0 h
    · have h := ite_t h t5
      refine p_bipush hF (pc := 185) dL_law_185 (by decide) ?_
      refine p_goto hF (pc := 187) 193 dL_law_187 (by decide) ?_
      refine p_sub (ls' := [(0, .ref (ya Y)), (1, .ref x), (2, .int (iZ x2)), (3, .int (iZ x3)), (4, .int (iZ x4)), (5, .int (iZ x5)), (7, .int (iZ x7)), (8, .ref x8), (9, .int (iZ x9)), (10, .int (iZ x10))]) [0, 1, 2, 3, 4, 5, 6, 7, 8, 9] rfl ?_
      exact w_Lb_193 hF hΩ hnn hE hk158 r_x2 r_x3 r_x4 r_x5 r_x7 k_x8 r_x9 r_x10 k_x8 r_x10 (by decide) r_v3 (by decide) hR_p0 hR_q0 h
set_option maxHeartbeats 4000000 in
set_option maxRecDepth 20000 in
theorem w_Lb_L158 {Y : lB} {L : Nat} {xs : Nat → Int32} {ρ : Nat → Nat × Nat} {x : Nat} {sa : Nat × Nat × Nat} {N nn : Nat} {Ω : oB} (hF : yF Y L xs ρ x sa) (hΩ : yOk Y xs L x sa Ω) (hnn : nn < 1000) {res : Int × Int × Int × Int × Int × Nat × Int × Int × Int × qM × qM × Nat} (hE : ∀ (p q : qM) (c : Nat) (x2 : Int) (x3 : Int) (x4 : Int) (x5 : Int) (x7 : Int) (x8 : Nat) (x9 : Int) (x10 : Int) (x11 : Int), in32 x2 → in32 x3 → in32 x4 → in32 x5 → in32 x7 → gK (y8 Y) x8 = 1000 + nn → in32 x9 → in32 x10 → in32 x11 → qR (y7 Y) p → qR (y8 Y) q → res = (x2, x3, x4, x5, x7, x8, x9, x10, x11, p, q, c) → yN Y c 317 [(0, .ref (ya Y)), (1, .ref x), (2, .int (iZ x2)), (3, .int (iZ x3)), (4, .int (iZ x4)), (5, .int (iZ x5)), (7, .int (iZ x7)), (8, .ref x8), (9, .int (iZ x9)), (10, .int (iZ x10)), (11, .int (iZ x11))] [.int (iZ x5), .int (iZ 3)] p q) 
    {x2 : Int} {x3 : Int} {x4 : Int} {x5 : Int} {x7 : Int} {x8 : Nat} {x9 : Int} {x10 : Int} (r_x2 : in32 x2) (r_x3 : in32 x3) (r_x4 : in32 x4) (r_x5 : in32 x5) (r_x7 : in32 x7) (k_x8 : gK (y8 Y) x8 = 1000 + nn) (r_x9 : in32 x9) (r_x10 : in32 x10) {p0 q0 : qM} {c0 : Nat} (hR_p0 : qR (y7 Y) p0) (hR_q0 : qR (y8 Y) q0)
    (h : f_Lb_L158 N (y7 Y) x Ω (gK (y8 Y)) nn  x2 x3 x4 x5 x7 x8 x9 x10 p0 q0 c0 = some res) : yN Y c0 158 [(0, .ref (ya Y)), (1, .ref x), (2, .int (iZ x2)), (3, .int (iZ x3)), (4, .int (iZ x4)), (5, .int (iZ x5)), (7, .int (iZ x7)), (8, .ref x8), (9, .int (iZ x9)), (10, .int (iZ x10))] [] p0 q0 := by
  unfold f_Lb_L158 at h
  exact qLoop_w (σ := Int × Int × Int × Int × Int × Nat × Int × Int × qM × qM × Nat) (P := fun z => in32 z.1 ∧ in32 z.2.1 ∧ in32 z.2.2.1 ∧ in32 z.2.2.2.1 ∧ in32 z.2.2.2.2.1 ∧ gK (y8 Y) z.2.2.2.2.2.1 = 1000 + nn ∧ in32 z.2.2.2.2.2.2.1 ∧ in32 z.2.2.2.2.2.2.2.1 ∧ qR (y7 Y) z.2.2.2.2.2.2.2.2.1 ∧ qR (y8 Y) z.2.2.2.2.2.2.2.2.2.1) (Q := fun z => yN Y z.2.2.2.2.2.2.2.2.2.2 158 [(0, .ref (ya Y)), (1, .ref x), (2, .int (iZ z.1)), (3, .int (iZ z.2.1)), (4, .int (iZ z.2.2.1)), (5, .int (iZ z.2.2.2.1)), (7, .int (iZ z.2.2.2.2.1)), (8, .ref z.2.2.2.2.2.1), (9, .int (iZ z.2.2.2.2.2.2.1)), (10, .int (iZ z.2.2.2.2.2.2.2.1))] [] z.2.2.2.2.2.2.2.2.1 z.2.2.2.2.2.2.2.2.2.1) (fun k hrec z hp hh => w_Lb_158 hF hΩ hnn hE (fun x2 x3 x4 x5 x7 x8 x9 x10 p0 q0 c0 w0 w1 w2 w3 w4 w5 w6 w7 w8 w9 hh => hrec (x2, x3, x4, x5, x7, x8, x9, x10, p0, q0, c0) ⟨w0, w1, w2, w3, w4, w5, w6, w7, w8, w9⟩ hh) hp.1 hp.2.1 hp.2.2.1 hp.2.2.2.1 hp.2.2.2.2.1 hp.2.2.2.2.2.1 hp.2.2.2.2.2.2.1 hp.2.2.2.2.2.2.2.1 hp.2.2.2.2.2.2.2.2.1 hp.2.2.2.2.2.2.2.2.2 hh) N (x2, x3, x4, x5, x7, x8, x9, x10, p0, q0, c0) ⟨r_x2, r_x3, r_x4, r_x5, r_x7, k_x8, r_x9, r_x10, hR_p0, hR_q0⟩ h
set_option maxHeartbeats 4000000 in
set_option maxRecDepth 20000 in
theorem w_Lb {Y : lB} {L : Nat} {xs : Nat → Int32} {ρ : Nat → Nat × Nat} {x : Nat} {sa : Nat × Nat × Nat} {N nn : Nat} {Ω : oB} (hF : yF Y L xs ρ x sa) (hΩ : yOk Y xs L x sa Ω) (hnn : nn < 1000) {res : Int × Int × Int × Int × Int × Nat × Int × Int × Int × qM × qM × Nat} (hE : ∀ (p q : qM) (c : Nat) (x2 : Int) (x3 : Int) (x4 : Int) (x5 : Int) (x7 : Int) (x8 : Nat) (x9 : Int) (x10 : Int) (x11 : Int), in32 x2 → in32 x3 → in32 x4 → in32 x5 → in32 x7 → gK (y8 Y) x8 = 1000 + nn → in32 x9 → in32 x10 → in32 x11 → qR (y7 Y) p → qR (y8 Y) q → res = (x2, x3, x4, x5, x7, x8, x9, x10, x11, p, q, c) → yN Y c 317 [(0, .ref (ya Y)), (1, .ref x), (2, .int (iZ x2)), (3, .int (iZ x3)), (4, .int (iZ x4)), (5, .int (iZ x5)), (7, .int (iZ x7)), (8, .ref x8), (9, .int (iZ x9)), (10, .int (iZ x10)), (11, .int (iZ x11))] [.int (iZ x5), .int (iZ 3)] p q) 
    {x2 : Int} {x3 : Int} {x4 : Int} {x5 : Int} {x7 : Int} {s0 : Nat} (r_x2 : in32 x2) (r_x3 : in32 x3) (r_x4 : in32 x4) (r_x5 : in32 x5) (r_x7 : in32 x7) (k_s0 : gK (y8 Y) s0 = 1000 + nn) {p0 q0 : qM} {c0 : Nat} (hR_p0 : qR (y7 Y) p0) (hR_q0 : qR (y8 Y) q0)
    (h : f_Lb N (y7 Y) x Ω (gK (y8 Y)) nn  x2 x3 x4 x5 x7 s0 p0 q0 c0 = some res) : yN Y c0 150 [(0, .ref (ya Y)), (1, .ref x), (2, .int (iZ x2)), (3, .int (iZ x3)), (4, .int (iZ x4)), (5, .int (iZ x5)), (7, .int (iZ x7))] [.ref s0] p0 q0 := by
  unfold f_Lb at h
  refine p_astore hF (pc := 150) (ls' := [(8, .ref s0), (0, .ref (ya Y)), (1, .ref x), (2, .int (iZ x2)), (3, .int (iZ x3)), (4, .int (iZ x4)), (5, .int (iZ x5)), (7, .int (iZ x7))]) dL_law_150 rfl rfl ?_
  refine p_iconst hF (pc := 152) dL_law_152 ?_
  refine p_istore hF (pc := 153) (ls' := [(9, .int (iZ 0)), (8, .ref s0), (0, .ref (ya Y)), (1, .ref x), (2, .int (iZ x2)), (3, .int (iZ x3)), (4, .int (iZ x4)), (5, .int (iZ x5)), (7, .int (iZ x7))]) dL_law_153 rfl rfl ?_
  refine p_iconst hF (pc := 155) dL_law_155 ?_
  refine p_istore hF (pc := 156) (ls' := [(10, .int (iZ 0)), (9, .int (iZ 0)), (8, .ref s0), (0, .ref (ya Y)), (1, .ref x), (2, .int (iZ x2)), (3, .int (iZ x3)), (4, .int (iZ x4)), (5, .int (iZ x5)), (7, .int (iZ x7))]) dL_law_156 rfl rfl ?_
  refine p_sub (ls' := [(0, .ref (ya Y)), (1, .ref x), (2, .int (iZ x2)), (3, .int (iZ x3)), (4, .int (iZ x4)), (5, .int (iZ x5)), (7, .int (iZ x7)), (8, .ref s0), (9, .int (iZ 0)), (10, .int (iZ 0))]) [3, 4, 5, 6, 7, 8, 9, 2, 1, 0] rfl ?_
  exact w_Lb_L158 hF hΩ hnn hE  r_x2 r_x3 r_x4 r_x5 r_x7 k_s0 (by decide) (by decide) hR_p0 hR_q0 h
