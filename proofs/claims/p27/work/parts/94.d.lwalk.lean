/-! MACHINE: the law walks as its pure functions say -/
set_option maxHeartbeats 4000000 in
set_option maxRecDepth 20000 in
theorem w_La_144 {Y : lB} {L : Nat} {xs : Nat → Int32} {ρ : Nat → Nat × Nat} {x : Nat} {sa : Nat × Nat × Nat} {N nn : Nat} {Ω : oB} (hF : yF Y L xs ρ x sa) (hΩ : yOk Y xs L x sa Ω) (hnn : nn < 1000) {res : Int × Int × Int × Int × Int × qM × qM × Nat} (hE : ∀ (p q : qM) (c : Nat) (x2 : Int) (x3 : Int) (x4 : Int) (x5 : Int) (x7 : Int), in32 x2 → in32 x3 → in32 x4 → in32 x5 → in32 x7 → qR (y7 Y) p → qR (y8 Y) q → res = (x2, x3, x4, x5, x7, p, q, c) → yN Y c 148 [(0, .ref (ya Y)), (1, .ref x), (2, .int (iZ x2)), (3, .int (iZ x3)), (4, .int (iZ x4)), (5, .int (iZ x5)), (7, .int (iZ x7))] [.int (iZ x5)] p q) 
    {x2 : Int} {x3 : Int} {x4 : Int} {x5 : Int} {s0 : Int} (r_x2 : in32 x2) (r_x3 : in32 x3) (r_x4 : in32 x4) (r_x5 : in32 x5) (r_s0 : in32 s0) {p0 q0 : qM} {c0 : Nat} (hR_p0 : qR (y7 Y) p0) (hR_q0 : qR (y8 Y) q0)
    (h : f_La_144 N (y7 Y) x Ω (gK (y8 Y)) nn  x2 x3 x4 x5 s0 p0 q0 c0 = some res) : yN Y c0 144 [(0, .ref (ya Y)), (1, .ref x), (2, .int (iZ x2)), (3, .int (iZ x3)), (4, .int (iZ x4)), (5, .int (iZ x5))] [.int (iZ s0)] p0 q0 := by
  unfold f_La_144 at h
  refine p_istore hF (pc := 144) (ls' := [(7, .int (iZ s0)), (0, .ref (ya Y)), (1, .ref x), (2, .int (iZ x2)), (3, .int (iZ x3)), (4, .int (iZ x4)), (5, .int (iZ x5))]) dL_law_144 rfl rfl ?_
  refine p_iload hF (pc := 146) dL_law_146 6 rfl ?_
  refine p_sub (ls' := [(0, .ref (ya Y)), (1, .ref x), (2, .int (iZ x2)), (3, .int (iZ x3)), (4, .int (iZ x4)), (5, .int (iZ x5)), (7, .int (iZ s0))]) [1, 2, 3, 4, 5, 6, 0] rfl ?_
  exact hE _ _ _ _ _ _ _ _ r_x2 r_x3 r_x4 r_x5 r_s0 hR_p0 hR_q0 (Option.some.inj h).symm
set_option maxHeartbeats 4000000 in
set_option maxRecDepth 20000 in
theorem w_La_134 {Y : lB} {L : Nat} {xs : Nat → Int32} {ρ : Nat → Nat × Nat} {x : Nat} {sa : Nat × Nat × Nat} {N nn : Nat} {Ω : oB} (hF : yF Y L xs ρ x sa) (hΩ : yOk Y xs L x sa Ω) (hnn : nn < 1000) {res : Int × Int × Int × Int × Int × qM × qM × Nat} (hE : ∀ (p q : qM) (c : Nat) (x2 : Int) (x3 : Int) (x4 : Int) (x5 : Int) (x7 : Int), in32 x2 → in32 x3 → in32 x4 → in32 x5 → in32 x7 → qR (y7 Y) p → qR (y8 Y) q → res = (x2, x3, x4, x5, x7, p, q, c) → yN Y c 148 [(0, .ref (ya Y)), (1, .ref x), (2, .int (iZ x2)), (3, .int (iZ x3)), (4, .int (iZ x4)), (5, .int (iZ x5)), (7, .int (iZ x7))] [.int (iZ x5)] p q) 
    {x2 : Int} {x3 : Int} {x4 : Int} {x5 : Int} {x6 : Int} (r_x2 : in32 x2) (r_x3 : in32 x3) (r_x4 : in32 x4) (r_x5 : in32 x5) (r_x6 : in32 x6) {p0 q0 : qM} {c0 : Nat} (hR_p0 : qR (y7 Y) p0) (hR_q0 : qR (y8 Y) q0)
    (h : f_La_134 N (y7 Y) x Ω (gK (y8 Y)) nn  x2 x3 x4 x5 x6 p0 q0 c0 = some res) : yN Y c0 134 [(0, .ref (ya Y)), (1, .ref x), (2, .int (iZ x2)), (3, .int (iZ x3)), (4, .int (iZ x4)), (5, .int (iZ x5)), (6, .int (iZ x6))] [] p0 q0 := by
  unfold f_La_134 at h
  refine p_iload hF (pc := 134) dL_law_134 6 rfl ?_
  refine p_if_eq hF (pc := 136) r_x6 143 dL_law_136 (by decide) (fun t1 => ?_) (fun t1 => ?_)
  · have h := ite_t h t1
    refine p_iconst hF (pc := 143) dL_law_143 ?_
    refine p_sub (ls' := [(0, .ref (ya Y)), (1, .ref x), (2, .int (iZ x2)), (3, .int (iZ x3)), (4, .int (iZ x4)), (5, .int (iZ x5))]) [0, 1, 2, 3, 4, 5] rfl ?_
    exact w_La_144 hF hΩ hnn hE  r_x2 r_x3 r_x4 r_x5 (by decide) hR_p0 hR_q0 h
  · have h := ite_f h t1
    refine p_iconst hF (pc := 139) dL_law_139 ?_
    refine p_goto hF (pc := 140) 144 dL_law_140 (by decide) ?_
    refine p_sub (ls' := [(0, .ref (ya Y)), (1, .ref x), (2, .int (iZ x2)), (3, .int (iZ x3)), (4, .int (iZ x4)), (5, .int (iZ x5))]) [0, 1, 2, 3, 4, 5] rfl ?_
    exact w_La_144 hF hΩ hnn hE  r_x2 r_x3 r_x4 r_x5 (by decide) hR_p0 hR_q0 h
set_option maxHeartbeats 4000000 in
set_option maxRecDepth 20000 in
theorem w_La_123 {Y : lB} {L : Nat} {xs : Nat → Int32} {ρ : Nat → Nat × Nat} {x : Nat} {sa : Nat × Nat × Nat} {N nn : Nat} {Ω : oB} (hF : yF Y L xs ρ x sa) (hΩ : yOk Y xs L x sa Ω) (hnn : nn < 1000) {res : Int × Int × Int × Int × Int × qM × qM × Nat} (hE : ∀ (p q : qM) (c : Nat) (x2 : Int) (x3 : Int) (x4 : Int) (x5 : Int) (x7 : Int), in32 x2 → in32 x3 → in32 x4 → in32 x5 → in32 x7 → qR (y7 Y) p → qR (y8 Y) q → res = (x2, x3, x4, x5, x7, p, q, c) → yN Y c 148 [(0, .ref (ya Y)), (1, .ref x), (2, .int (iZ x2)), (3, .int (iZ x3)), (4, .int (iZ x4)), (5, .int (iZ x5)), (7, .int (iZ x7))] [.int (iZ x5)] p q) 
    {x2 : Int} {x3 : Int} {x4 : Int} {x5 : Int} {x6 : Int} {s1 : Int} {s2 : Int} {s3 : Int} (r_x2 : in32 x2) (r_x3 : in32 x3) (r_x4 : in32 x4) (r_x5 : in32 x5) (r_x6 : in32 x6) (r_s1 : in32 s1) (r_s2 : in32 s2) (r_s3 : in32 s3) {p0 q0 : qM} {c0 : Nat} (hR_p0 : qR (y7 Y) p0) (hR_q0 : qR (y8 Y) q0)
    (h : f_La_123 N (y7 Y) x Ω (gK (y8 Y)) nn  x2 x3 x4 x5 x6 s1 s2 s3 p0 q0 c0 = some res) : yN Y c0 123 [(0, .ref (ya Y)), (1, .ref x), (2, .int (iZ x2)), (3, .int (iZ x3)), (4, .int (iZ x4)), (5, .int (iZ x5)), (6, .int (iZ x6))] [.int (iZ s3), .int (iZ s2), .int (iZ s1), .ref x] p0 q0 := by
  unfold f_La_123 at h
  refine p_iconst hF (pc := 123) dL_law_123 ?_
  refine p_iconst hF (pc := 124) dL_law_124 ?_
  obtain ⟨v2, p1, e_p1, h⟩ := kb2_e h
  refine p_call7 hF (pc := 125) [.int (iZ s1), .int (iZ s2), .int (iZ s3), .int (iZ 5), .int (iZ 0)] [.int (iZ 0), .int (iZ 5), .int (iZ s3), .int (iZ s2), .int (iZ s1)] 5 dL_law_125 (goodIn_l gL_law_X7_order) rfl dd_X7_order ⟨rfl, rfl⟩ rfl rfl rfl (k_X7_order (yl Y) hF.T7 hF.k7 r_s1 r_s2 r_s3 (show in32 5 by decide) (show in32 0 by decide) e_p1) (fun r_v2 hR_p1 => ?_)
  refine p_iconst hF (pc := 128) dL_law_128 ?_
  refine p_icmp_eq hF (pc := 129) r_v2 (by decide) 134 dL_law_129 (by decide) (fun t3 => ?_) (fun t3 => ?_)
  · have h := ite_t h t3
    refine p_sub (ls' := [(0, .ref (ya Y)), (1, .ref x), (2, .int (iZ x2)), (3, .int (iZ x3)), (4, .int (iZ x4)), (5, .int (iZ x5)), (6, .int (iZ x6))]) [0, 1, 2, 3, 4, 5, 6] rfl ?_
    exact w_La_134 hF hΩ hnn hE  r_x2 r_x3 r_x4 r_x5 r_x6 hR_p1 hR_q0 h
  · have h := ite_f h t3
    cases h
set_option maxHeartbeats 4000000 in
set_option maxRecDepth 20000 in
theorem w_La_99 {Y : lB} {L : Nat} {xs : Nat → Int32} {ρ : Nat → Nat × Nat} {x : Nat} {sa : Nat × Nat × Nat} {N nn : Nat} {Ω : oB} (hF : yF Y L xs ρ x sa) (hΩ : yOk Y xs L x sa Ω) (hnn : nn < 1000) {res : Int × Int × Int × Int × Int × qM × qM × Nat} (hE : ∀ (p q : qM) (c : Nat) (x2 : Int) (x3 : Int) (x4 : Int) (x5 : Int) (x7 : Int), in32 x2 → in32 x3 → in32 x4 → in32 x5 → in32 x7 → qR (y7 Y) p → qR (y8 Y) q → res = (x2, x3, x4, x5, x7, p, q, c) → yN Y c 148 [(0, .ref (ya Y)), (1, .ref x), (2, .int (iZ x2)), (3, .int (iZ x3)), (4, .int (iZ x4)), (5, .int (iZ x5)), (7, .int (iZ x7))] [.int (iZ x5)] p q) 
    {x2 : Int} {x3 : Int} {x4 : Int} {x5 : Int} {s0 : Int} (r_x2 : in32 x2) (r_x3 : in32 x3) (r_x4 : in32 x4) (r_x5 : in32 x5) (r_s0 : in32 s0) {p0 q0 : qM} {c0 : Nat} (hR_p0 : qR (y7 Y) p0) (hR_q0 : qR (y8 Y) q0)
    (h : f_La_99 N (y7 Y) x Ω (gK (y8 Y)) nn  x2 x3 x4 x5 s0 p0 q0 c0 = some res) : yN Y c0 99 [(0, .ref (ya Y)), (1, .ref x), (2, .int (iZ x2)), (3, .int (iZ x3)), (4, .int (iZ x4)), (5, .int (iZ x5))] [.int (iZ s0)] p0 q0 := by
  unfold f_La_99 at h
  refine p_istore hF (pc := 99) (ls' := [(6, .int (iZ s0)), (0, .ref (ya Y)), (1, .ref x), (2, .int (iZ x2)), (3, .int (iZ x3)), (4, .int (iZ x4)), (5, .int (iZ x5))]) dL_law_99 rfl rfl ?_
  refine p_iload hF (pc := 101) dL_law_101 0 rfl ?_
  refine p_if_eq hF (pc := 103) r_s0 134 dL_law_103 (by decide) (fun t1 => ?_) (fun t1 => ?_)
  · have h := ite_t h t1
    refine p_sub (ls' := [(0, .ref (ya Y)), (1, .ref x), (2, .int (iZ x2)), (3, .int (iZ x3)), (4, .int (iZ x4)), (5, .int (iZ x5)), (6, .int (iZ s0))]) [1, 2, 3, 4, 5, 6, 0] rfl ?_
    exact w_La_134 hF hΩ hnn hE  r_x2 r_x3 r_x4 r_x5 r_s0 hR_p0 hR_q0 h
  · have h := ite_f h t1
    refine p_aload_n hF (pc := 106) dL_law_106 2 rfl rfl ?_
    refine p_bipush hF (pc := 107) dL_law_107 (by decide) ?_
    refine p_iload hF (pc := 109) dL_law_109 5 rfl ?_
    refine p_iload hF (pc := 111) dL_law_111 5 rfl ?_
    refine p_if_ne hF (pc := 113) r_x4 121 dL_law_113 (by decide) (fun t2 => ?_) (fun t2 => ?_)
    · have h := ite_f h t2
      refine p_bipush hF (pc := 121) dL_law_121 (by decide) ?_
      refine p_sub (ls' := [(0, .ref (ya Y)), (1, .ref x), (2, .int (iZ x2)), (3, .int (iZ x3)), (4, .int (iZ x4)), (5, .int (iZ x5)), (6, .int (iZ s0))]) [1, 2, 3, 4, 5, 6, 0] rfl ?_
      exact w_La_123 hF hΩ hnn hE  r_x2 r_x3 r_x4 r_x5 r_s0 (by decide) r_x4 (by decide) hR_p0 hR_q0 h
    · have h := ite_t h t2
      refine p_bipush hF (pc := 116) dL_law_116 (by decide) ?_
      refine p_goto hF (pc := 118) 123 dL_law_118 (by decide) ?_
      refine p_sub (ls' := [(0, .ref (ya Y)), (1, .ref x), (2, .int (iZ x2)), (3, .int (iZ x3)), (4, .int (iZ x4)), (5, .int (iZ x5)), (6, .int (iZ s0))]) [1, 2, 3, 4, 5, 6, 0] rfl ?_
      exact w_La_123 hF hΩ hnn hE  r_x2 r_x3 r_x4 r_x5 r_s0 (by decide) r_x4 (by decide) hR_p0 hR_q0 h
set_option maxHeartbeats 4000000 in
set_option maxRecDepth 20000 in
theorem w_La {Y : lB} {L : Nat} {xs : Nat → Int32} {ρ : Nat → Nat × Nat} {x : Nat} {sa : Nat × Nat × Nat} {N nn : Nat} {Ω : oB} (hF : yF Y L xs ρ x sa) (hΩ : yOk Y xs L x sa Ω) (hnn : nn < 1000) {res : Int × Int × Int × Int × Int × qM × qM × Nat} (hE : ∀ (p q : qM) (c : Nat) (x2 : Int) (x3 : Int) (x4 : Int) (x5 : Int) (x7 : Int), in32 x2 → in32 x3 → in32 x4 → in32 x5 → in32 x7 → qR (y7 Y) p → qR (y8 Y) q → res = (x2, x3, x4, x5, x7, p, q, c) → yN Y c 148 [(0, .ref (ya Y)), (1, .ref x), (2, .int (iZ x2)), (3, .int (iZ x3)), (4, .int (iZ x4)), (5, .int (iZ x5)), (7, .int (iZ x7))] [.int (iZ x5)] p q) 
      {p0 q0 : qM} {c0 : Nat} (hR_p0 : qR (y7 Y) p0) (hR_q0 : qR (y8 Y) q0)
    (h : f_La N (y7 Y) x Ω (gK (y8 Y)) nn   p0 q0 c0 = some res) : yN Y c0 8 [(0, .ref (ya Y)), (1, .ref x)] [] p0 q0 := by
  unfold f_La at h
  refine p_aload_n hF (pc := 8) dL_law_8 0 rfl rfl ?_
  refine p_iconst hF (pc := 9) dL_law_9 ?_
  refine p_bipush hF (pc := 10) dL_law_10 (by decide) ?_
  obtain ⟨v1, e_v1, b_v1, h⟩ := rdW_e h
  rw [hΩ.1] at e_v1
  have r_v1 : in32 v1 := sSome_32 e_v1 b_v1.2
  refine p_some hF (pc := 12) b_v1.1 b_v1.2 dL_law_12 rfl ?_
  rw [← e_v1]
  refine p_istore_n hF (pc := 15) (ls' := [(2, .int (iZ v1)), (0, .ref (ya Y)), (1, .ref x)]) dL_law_15 rfl rfl rfl ?_
  refine p_iconst hF (pc := 16) dL_law_16 ?_
  refine p_aload_n hF (pc := 17) dL_law_17 1 rfl rfl ?_
  refine p_iconst hF (pc := 18) dL_law_18 ?_
  refine p_bipush hF (pc := 19) dL_law_19 (by decide) ?_
  obtain ⟨v2, e_v2, b_v2, h⟩ := rdW_e h
  rw [hΩ.1] at e_v2
  have r_v2 : in32 v2 := sSome_32 e_v2 b_v2.2
  refine p_some hF (pc := 21) b_v2.1 b_v2.2 dL_law_21 rfl ?_
  rw [← e_v2]
  obtain ⟨v3, e_v3, r_v3, h⟩ := ckI_e h
  refine p_iadd hF (pc := 24) dL_law_24 e_v3 ?_
  refine p_istore_n hF (pc := 25) (ls' := [(3, .int (iZ v3)), (2, .int (iZ v1)), (0, .ref (ya Y)), (1, .ref x)]) dL_law_25 rfl rfl rfl ?_
  refine p_aload_n hF (pc := 26) dL_law_26 3 rfl rfl ?_
  refine p_iload_n hF (pc := 27) dL_law_27 1 rfl rfl ?_
  obtain ⟨v5, p4, e_p4, h⟩ := kb2_e h
  refine p_call7 hF (pc := 28) [.int (iZ v1)] [.int (iZ v1)] 1 dL_law_28 (goodIn_l gL_law_X7_grant) rfl dd_X7_grant ⟨rfl, rfl⟩ rfl rfl rfl (k_X7_grant (yl Y) hF.T7 hF.k7 r_v1 e_p4) (fun r_v5 hR_p4 => ?_)
  refine p_bipush hF (pc := 31) dL_law_31 (by decide) ?_
  refine p_icmp_ne hF (pc := 33) r_v5 (by decide) 64 dL_law_33 (by decide) (fun t6 => ?_) (fun t6 => ?_)
  · have h := ite_f h t6
    cases h
  · have h := ite_t h t6
    refine p_aload_n hF (pc := 36) dL_law_36 3 rfl rfl ?_
    refine p_iload_n hF (pc := 37) dL_law_37 0 rfl rfl ?_
    obtain ⟨v8, p7, e_p7, h⟩ := kb2_e h
    refine p_call7 hF (pc := 38) [.int (iZ v3)] [.int (iZ v3)] 1 dL_law_38 (goodIn_l gL_law_X7_least) rfl dd_X7_least ⟨rfl, rfl⟩ rfl rfl rfl (k_X7_least (yl Y) hF.T7 hF.k7 r_v3 e_p7) (fun r_v8 hR_p7 => ?_)
    refine p_iconst hF (pc := 41) dL_law_41 ?_
    refine p_icmp_ne hF (pc := 42) r_v8 (by decide) 64 dL_law_42 (by decide) (fun t9 => ?_) (fun t9 => ?_)
    · have h := ite_f h t9
      cases h
    · have h := ite_t h t9
      refine p_aload_n hF (pc := 45) dL_law_45 3 rfl rfl ?_
      refine p_bipush hF (pc := 46) dL_law_46 (by decide) ?_
      obtain ⟨v11, p10, e_p10, h⟩ := kb2_e h
      refine p_call7 hF (pc := 48) [.int (iZ 51)] [.int (iZ 51)] 1 dL_law_48 (goodIn_l gL_law_X7_least) rfl dd_X7_least ⟨rfl, rfl⟩ rfl rfl rfl (k_X7_least (yl Y) hF.T7 hF.k7 (show in32 51 by decide) e_p10) (fun r_v11 hR_p10 => ?_)
      refine p_iconst hF (pc := 51) dL_law_51 ?_
      refine p_icmp_ne hF (pc := 52) r_v11 (by decide) 64 dL_law_52 (by decide) (fun t12 => ?_) (fun t12 => ?_)
      · have h := ite_f h t12
        cases h
      · have h := ite_t h t12
        refine p_aload_n hF (pc := 55) dL_law_55 3 rfl rfl ?_
        refine p_iconst hF (pc := 56) dL_law_56 ?_
        obtain ⟨v14, p13, e_p13, h⟩ := kb2_e h
        refine p_call7 hF (pc := 57) [.int (iZ 0)] [.int (iZ 0)] 1 dL_law_57 (goodIn_l gL_law_X7_top) rfl dd_X7_top ⟨rfl, rfl⟩ rfl rfl rfl (k_X7_top (yl Y) hF.T7 hF.k7 (show in32 0 by decide) e_p13) (fun r_v14 hR_p13 => ?_)
        refine p_iconst hF (pc := 60) dL_law_60 ?_
        refine p_icmp_eq hF (pc := 61) r_v14 (by decide) 66 dL_law_61 (by decide) (fun t15 => ?_) (fun t15 => ?_)
        · have h := ite_t h t15
          refine p_aload_n hF (pc := 66) dL_law_66 2 rfl rfl ?_
          refine p_iconst hF (pc := 67) dL_law_67 ?_
          refine p_iconst hF (pc := 68) dL_law_68 ?_
          obtain ⟨v16, e_v16, b_v16, h⟩ := rdW_e h
          rw [hΩ.1] at e_v16
          have r_v16 : in32 v16 := sSome_32 e_v16 b_v16.2
          refine p_some hF (pc := 69) b_v16.1 b_v16.2 dL_law_69 rfl ?_
          rw [← e_v16]
          refine p_istore hF (pc := 72) (ls' := [(4, .int (iZ v16)), (3, .int (iZ v3)), (2, .int (iZ v1)), (0, .ref (ya Y)), (1, .ref x)]) dL_law_72 rfl rfl ?_
          refine p_iconst hF (pc := 74) dL_law_74 ?_
          refine p_aload_n hF (pc := 75) dL_law_75 3 rfl rfl ?_
          refine p_iconst hF (pc := 76) dL_law_76 ?_
          refine p_bipush hF (pc := 77) dL_law_77 (by decide) ?_
          obtain ⟨v17, e_v17, b_v17, h⟩ := rdW_e h
          rw [hΩ.1] at e_v17
          have r_v17 : in32 v17 := sSome_32 e_v17 b_v17.2
          refine p_some hF (pc := 79) b_v17.1 b_v17.2 dL_law_79 rfl ?_
          rw [← e_v17]
          obtain ⟨v18, e_v18, r_v18, h⟩ := ckI_e h
          refine p_iadd hF (pc := 82) dL_law_82 e_v18 ?_
          refine p_istore hF (pc := 83) (ls' := [(5, .int (iZ v18)), (4, .int (iZ v16)), (3, .int (iZ v3)), (2, .int (iZ v1)), (0, .ref (ya Y)), (1, .ref x)]) dL_law_83 rfl rfl ?_
          refine p_aload_n hF (pc := 85) dL_law_85 4 rfl rfl ?_
          refine p_iconst hF (pc := 86) dL_law_86 ?_
          refine p_iconst hF (pc := 87) dL_law_87 ?_
          obtain ⟨v19, e_v19, b_v19, h⟩ := rdW_e h
          rw [hΩ.1] at e_v19
          have r_v19 : in32 v19 := sSome_32 e_v19 b_v19.2
          refine p_some hF (pc := 88) b_v19.1 b_v19.2 dL_law_88 rfl ?_
          rw [← e_v19]
          refine p_if_ne hF (pc := 91) r_v19 98 dL_law_91 (by decide) (fun t20 => ?_) (fun t20 => ?_)
          · have h := ite_f h t20
            refine p_iconst hF (pc := 98) dL_law_98 ?_
            refine p_sub (ls' := [(0, .ref (ya Y)), (1, .ref x), (2, .int (iZ v1)), (3, .int (iZ v3)), (4, .int (iZ v16)), (5, .int (iZ v18))]) [4, 5, 3, 2, 1, 0] rfl ?_
            exact w_La_99 hF hΩ hnn hE  r_v1 r_v3 r_v16 r_v18 (by decide) hR_p13 hR_q0 h
          · have h := ite_t h t20
            refine p_iconst hF (pc := 94) dL_law_94 ?_
            refine p_goto hF (pc := 95) 99 dL_law_95 (by decide) ?_
            refine p_sub (ls' := [(0, .ref (ya Y)), (1, .ref x), (2, .int (iZ v1)), (3, .int (iZ v3)), (4, .int (iZ v16)), (5, .int (iZ v18))]) [4, 5, 3, 2, 1, 0] rfl ?_
            exact w_La_99 hF hΩ hnn hE  r_v1 r_v3 r_v16 r_v18 (by decide) hR_p13 hR_q0 h
        · have h := ite_f h t15
          cases h
