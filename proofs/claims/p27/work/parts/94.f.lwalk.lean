/-! MACHINE: the law walks as its pure functions say -/
set_option maxHeartbeats 4000000 in
set_option maxRecDepth 20000 in
theorem w_Lc_1021 {Y : lB} {L : Nat} {xs : Nat → Int32} {ρ : Nat → Nat × Nat} {x : Nat} {sa : Nat × Nat × Nat} {N nn : Nat} {Ω : oB} (hF : yF Y L xs ρ x sa) (hΩ : yOk Y xs L x sa Ω) (hnn : nn < 1000) {res : Int} (hE : res = 1) 
      {p0 q0 : qM} {c0 : Nat} (hR_p0 : qR (y7 Y) p0) (hR_q0 : qR (y8 Y) q0)
    (h : f_Lc_1021 N (y7 Y) x Ω (gK (y8 Y)) nn   p0 q0 c0 = some res) : yN Y c0 1021 [(0, .ref (ya Y)), (1, .ref x)] [] p0 q0 := by
  unfold f_Lc_1021 at h
  refine p_iconst hF (pc := 1021) dL_law_1021 ?_
  refine p_goto hF (pc := 1022) 1026 dL_law_1022 (by decide) ?_
  exact p_ret hF (pc := 1026) dL_law_1026
set_option maxHeartbeats 4000000 in
set_option maxRecDepth 20000 in
theorem w_Lc_995 {Y : lB} {L : Nat} {xs : Nat → Int32} {ρ : Nat → Nat × Nat} {x : Nat} {sa : Nat × Nat × Nat} {N nn : Nat} {Ω : oB} (hF : yF Y L xs ρ x sa) (hΩ : yOk Y xs L x sa Ω) (hnn : nn < 1000) {res : Int} (hE : res = 1) 
    {x2 : Int} {x7 : Int} {x12 : Nat} {x19 : Int} {s0 : Int} {s1 : Int} (r_x2 : in32 x2) (r_x7 : in32 x7) (k_x12 : gK (y8 Y) x12 = 5003) (r_x19 : in32 x19) (r_s0 : in32 s0) (r_s1 : in32 s1) {p0 q0 : qM} {c0 : Nat} (hR_p0 : qR (y7 Y) p0) (hR_q0 : qR (y8 Y) q0)
    (h : f_Lc_995 N (y7 Y) x Ω (gK (y8 Y)) nn  x2 x7 x12 x19 s0 s1 p0 q0 c0 = some res) : yN Y c0 995 [(0, .ref (ya Y)), (1, .ref x), (2, .int (iZ x2)), (7, .int (iZ x7)), (12, .ref x12), (19, .int (iZ x19))] [.int (iZ s1), .int (iZ s0)] p0 q0 := by
  unfold f_Lc_995 at h
  refine p_icmp_ne hF (pc := 995) r_s0 r_s1 1025 dL_law_995 (by decide) (fun t1 => ?_) (fun t1 => ?_)
  · have h := ite_f h t1
    cases h
  · have h := ite_t h t1
    refine p_iload hF (pc := 998) dL_law_998 5 rfl ?_
    refine p_if_eq hF (pc := 1000) r_x19 1021 dL_law_1000 (by decide) (fun t2 => ?_) (fun t2 => ?_)
    · have h := ite_t h t2
      refine p_sub (ls' := [(0, .ref (ya Y)), (1, .ref x)]) [0, 1] rfl ?_
      exact w_Lc_1021 hF hΩ hnn hE   hR_p0 hR_q0 h
    · have h := ite_f h t2
      refine p_aload_n hF (pc := 1003) dL_law_1003 1 rfl rfl ?_
      refine p_iload hF (pc := 1004) dL_law_1004 3 rfl ?_
      refine p_iconst hF (pc := 1006) dL_law_1006 ?_
      obtain ⟨v3, e_v3, h⟩ := kb_e h
      refine p_call7 hF (pc := 1007) [.int (iZ x7), .int (iZ 5)] [.int (iZ 5), .int (iZ x7)] 2 dL_law_1007 gL_law_Y_of rfl dd_X7_of ⟨rfl, rfl⟩ rfl rfl rfl (hΩ.2.1 p0 _ _ r_x7 e_v3 (yl Y)) (fun r_v3 _ => ?_)
      refine p_iload_n hF (pc := 1010) dL_law_1010 2 rfl rfl ?_
      refine p_aload hF (pc := 1011) dL_law_1011 4 rfl ?_
      refine p_iconst hF (pc := 1013) dL_law_1013 ?_
      obtain ⟨o4, e_o4, b_o4, k_o4, h⟩ := rdQ_e h
      refine p_aaldR hF (pc := 1014) 3 dL_law_1014 k_x12 (by decide) b_o4 e_o4 ?_
      refine p_iconst hF (pc := 1015) dL_law_1015 ?_
      obtain ⟨v5, e_v5, b_v5, h⟩ := rdA_e h
      have r_v5 : in32 v5 := by rw [e_v5]; exact hR_q0.a (n := nn) _ k_o4 hnn
      refine p_iald hF (pc := 1016) nn dL_law_1016 k_o4 hnn b_v5 e_v5 ?_
      obtain ⟨v6, e_v6, r_v6, h⟩ := ckI_e h
      refine p_isub hF (pc := 1017) dL_law_1017 e_v6 ?_
      refine p_icmp_ne hF (pc := 1018) r_v3 r_v6 1025 dL_law_1018 (by decide) (fun t7 => ?_) (fun t7 => ?_)
      · have h := ite_f h t7
        cases h
      · have h := ite_t h t7
        refine p_sub (ls' := [(0, .ref (ya Y)), (1, .ref x)]) [0, 1] rfl ?_
        exact w_Lc_1021 hF hΩ hnn hE   hR_p0 hR_q0 h
set_option maxHeartbeats 4000000 in
set_option maxRecDepth 20000 in
theorem w_Lc_976 {Y : lB} {L : Nat} {xs : Nat → Int32} {ρ : Nat → Nat × Nat} {x : Nat} {sa : Nat × Nat × Nat} {N nn : Nat} {Ω : oB} (hF : yF Y L xs ρ x sa) (hΩ : yOk Y xs L x sa Ω) (hnn : nn < 1000) {res : Int} (hE : res = 1) 
    {x2 : Int} {x4 : Int} {x7 : Int} {x12 : Nat} {s0 : Int} (r_x2 : in32 x2) (r_x4 : in32 x4) (r_x7 : in32 x7) (k_x12 : gK (y8 Y) x12 = 5003) (r_s0 : in32 s0) {p0 q0 : qM} {c0 : Nat} (hR_p0 : qR (y7 Y) p0) (hR_q0 : qR (y8 Y) q0)
    (h : f_Lc_976 N (y7 Y) x Ω (gK (y8 Y)) nn  x2 x4 x7 x12 s0 p0 q0 c0 = some res) : yN Y c0 976 [(0, .ref (ya Y)), (1, .ref x), (2, .int (iZ x2)), (4, .int (iZ x4)), (7, .int (iZ x7)), (12, .ref x12)] [.int (iZ s0)] p0 q0 := by
  unfold f_Lc_976 at h
  refine p_istore hF (pc := 976) (ls' := [(19, .int (iZ s0)), (0, .ref (ya Y)), (1, .ref x), (2, .int (iZ x2)), (4, .int (iZ x4)), (7, .int (iZ x7)), (12, .ref x12)]) dL_law_976 rfl rfl ?_
  refine p_aload_n hF (pc := 978) dL_law_978 2 rfl rfl ?_
  refine p_iload hF (pc := 979) dL_law_979 4 rfl ?_
  obtain ⟨v2, p1, e_p1, h⟩ := kb2_e h
  refine p_call7 hF (pc := 981) [.int (iZ x4)] [.int (iZ x4)] 1 dL_law_981 (goodIn_l gL_law_X7_top) rfl dd_X7_top ⟨rfl, rfl⟩ rfl rfl rfl (k_X7_top (yl Y) hF.T7 hF.k7 r_x4 e_p1) (fun r_v2 hR_p1 => ?_)
  refine p_iload hF (pc := 984) dL_law_984 0 rfl ?_
  refine p_if_eq hF (pc := 986) r_s0 994 dL_law_986 (by decide) (fun t3 => ?_) (fun t3 => ?_)
  · have h := ite_t h t3
    refine p_iconst hF (pc := 994) dL_law_994 ?_
    refine p_sub (ls' := [(0, .ref (ya Y)), (1, .ref x), (2, .int (iZ x2)), (7, .int (iZ x7)), (12, .ref x12), (19, .int (iZ s0))]) [1, 2, 3, 5, 6, 0] rfl ?_
    exact w_Lc_995 hF hΩ hnn hE  r_x2 r_x7 k_x12 r_s0 r_v2 (by decide) hR_p1 hR_q0 h
  · have h := ite_f h t3
    refine p_iload hF (pc := 989) dL_law_989 5 rfl ?_
    refine p_goto hF (pc := 991) 995 dL_law_991 (by decide) ?_
    refine p_sub (ls' := [(0, .ref (ya Y)), (1, .ref x), (2, .int (iZ x2)), (7, .int (iZ x7)), (12, .ref x12), (19, .int (iZ s0))]) [1, 2, 3, 5, 6, 0] rfl ?_
    exact w_Lc_995 hF hΩ hnn hE  r_x2 r_x7 k_x12 r_s0 r_v2 r_x7 hR_p1 hR_q0 h
set_option maxHeartbeats 4000000 in
set_option maxRecDepth 20000 in
theorem w_Lc_975 {Y : lB} {L : Nat} {xs : Nat → Int32} {ρ : Nat → Nat × Nat} {x : Nat} {sa : Nat × Nat × Nat} {N nn : Nat} {Ω : oB} (hF : yF Y L xs ρ x sa) (hΩ : yOk Y xs L x sa Ω) (hnn : nn < 1000) {res : Int} (hE : res = 1) 
    {x2 : Int} {x4 : Int} {x7 : Int} {x12 : Nat} (r_x2 : in32 x2) (r_x4 : in32 x4) (r_x7 : in32 x7) (k_x12 : gK (y8 Y) x12 = 5003) {p0 q0 : qM} {c0 : Nat} (hR_p0 : qR (y7 Y) p0) (hR_q0 : qR (y8 Y) q0)
    (h : f_Lc_975 N (y7 Y) x Ω (gK (y8 Y)) nn  x2 x4 x7 x12 p0 q0 c0 = some res) : yN Y c0 975 [(0, .ref (ya Y)), (1, .ref x), (2, .int (iZ x2)), (4, .int (iZ x4)), (7, .int (iZ x7)), (12, .ref x12)] [] p0 q0 := by
  unfold f_Lc_975 at h
  refine p_iconst hF (pc := 975) dL_law_975 ?_
  refine p_sub (ls' := [(0, .ref (ya Y)), (1, .ref x), (2, .int (iZ x2)), (4, .int (iZ x4)), (7, .int (iZ x7)), (12, .ref x12)]) [0, 1, 2, 3, 4, 5] rfl ?_
  exact w_Lc_976 hF hΩ hnn hE  r_x2 r_x4 r_x7 k_x12 (by decide) hR_p0 hR_q0 h
set_option maxHeartbeats 4000000 in
set_option maxRecDepth 20000 in
theorem w_Lc_942 {Y : lB} {L : Nat} {xs : Nat → Int32} {ρ : Nat → Nat × Nat} {x : Nat} {sa : Nat × Nat × Nat} {N nn : Nat} {Ω : oB} (hF : yF Y L xs ρ x sa) (hΩ : yOk Y xs L x sa Ω) (hnn : nn < 1000) {res : Int} (hE : res = 1) 
    {x2 : Int} {x4 : Int} {x7 : Int} {x10 : Int} {x12 : Nat} {s0 : Int} {s1 : Int} (r_x2 : in32 x2) (r_x4 : in32 x4) (r_x7 : in32 x7) (r_x10 : in32 x10) (k_x12 : gK (y8 Y) x12 = 5003) (r_s0 : in32 s0) (r_s1 : in32 s1) {p0 q0 : qM} {c0 : Nat} (hR_p0 : qR (y7 Y) p0) (hR_q0 : qR (y8 Y) q0)
    (h : f_Lc_942 N (y7 Y) x Ω (gK (y8 Y)) nn  x2 x4 x7 x10 x12 s0 s1 p0 q0 c0 = some res) : yN Y c0 942 [(0, .ref (ya Y)), (1, .ref x), (2, .int (iZ x2)), (4, .int (iZ x4)), (7, .int (iZ x7)), (10, .int (iZ x10)), (12, .ref x12)] [.int (iZ s1), .int (iZ s0)] p0 q0 := by
  unfold f_Lc_942 at h
  refine p_icmp_eq hF (pc := 942) r_s0 r_s1 947 dL_law_942 (by decide) (fun t1 => ?_) (fun t1 => ?_)
  · have h := ite_t h t1
    refine p_iload hF (pc := 947) dL_law_947 5 rfl ?_
    refine p_if_eq hF (pc := 949) r_x10 975 dL_law_949 (by decide) (fun t2 => ?_) (fun t2 => ?_)
    · have h := ite_t h t2
      refine p_sub (ls' := [(0, .ref (ya Y)), (1, .ref x), (2, .int (iZ x2)), (4, .int (iZ x4)), (7, .int (iZ x7)), (12, .ref x12)]) [0, 1, 2, 3, 4, 6] rfl ?_
      exact w_Lc_975 hF hΩ hnn hE  r_x2 r_x4 r_x7 k_x12 hR_p0 hR_q0 h
    · have h := ite_f h t2
      refine p_aload_n hF (pc := 952) dL_law_952 1 rfl rfl ?_
      refine p_iload hF (pc := 953) dL_law_953 4 rfl ?_
      refine p_size hF hΩ r_x7 (pc := 955) dL_law_955 rfl h (fun v3 c4 r_v3 h => ?_)
      refine p_if_le hF (pc := 958) r_v3 975 dL_law_958 (by decide) (fun t5 => ?_) (fun t5 => ?_)
      · have h := ite_f h t5
        refine p_sub (ls' := [(0, .ref (ya Y)), (1, .ref x), (2, .int (iZ x2)), (4, .int (iZ x4)), (7, .int (iZ x7)), (12, .ref x12)]) [0, 1, 2, 3, 4, 6] rfl ?_
        exact w_Lc_975 hF hΩ hnn hE  r_x2 r_x4 r_x7 k_x12 hR_p0 hR_q0 h
      · have h := ite_t h t5
        refine p_iload_n hF (pc := 961) dL_law_961 2 rfl rfl ?_
        refine p_aload hF (pc := 962) dL_law_962 6 rfl ?_
        refine p_iconst hF (pc := 964) dL_law_964 ?_
        obtain ⟨o6, e_o6, b_o6, k_o6, h⟩ := rdQ_e h
        refine p_aaldR hF (pc := 965) 3 dL_law_965 k_x12 (by decide) b_o6 e_o6 ?_
        refine p_iconst hF (pc := 966) dL_law_966 ?_
        obtain ⟨v7, e_v7, b_v7, h⟩ := rdA_e h
        have r_v7 : in32 v7 := by rw [e_v7]; exact hR_q0.a (n := nn) _ k_o6 hnn
        refine p_iald hF (pc := 967) nn dL_law_967 k_o6 hnn b_v7 e_v7 ?_
        refine p_icmp_le hF (pc := 968) r_x2 r_v7 975 dL_law_968 (by decide) (fun t8 => ?_) (fun t8 => ?_)
        · have h := ite_f h t8
          refine p_sub (ls' := [(0, .ref (ya Y)), (1, .ref x), (2, .int (iZ x2)), (4, .int (iZ x4)), (7, .int (iZ x7)), (12, .ref x12)]) [0, 1, 2, 3, 4, 6] rfl ?_
          exact w_Lc_975 hF hΩ hnn hE  r_x2 r_x4 r_x7 k_x12 hR_p0 hR_q0 h
        · have h := ite_t h t8
          refine p_iconst hF (pc := 971) dL_law_971 ?_
          refine p_goto hF (pc := 972) 976 dL_law_972 (by decide) ?_
          refine p_sub (ls' := [(0, .ref (ya Y)), (1, .ref x), (2, .int (iZ x2)), (4, .int (iZ x4)), (7, .int (iZ x7)), (12, .ref x12)]) [0, 1, 2, 3, 4, 6] rfl ?_
          exact w_Lc_976 hF hΩ hnn hE  r_x2 r_x4 r_x7 k_x12 (by decide) hR_p0 hR_q0 h
  · have h := ite_f h t1
    cases h
set_option maxHeartbeats 4000000 in
set_option maxRecDepth 20000 in
theorem w_Lc_831 {Y : lB} {L : Nat} {xs : Nat → Int32} {ρ : Nat → Nat × Nat} {x : Nat} {sa : Nat × Nat × Nat} {N nn : Nat} {Ω : oB} (hF : yF Y L xs ρ x sa) (hΩ : yOk Y xs L x sa Ω) (hnn : nn < 1000) {res : Int} (hE : res = 1) {k831 : (Int → Int → Int → Int → Nat → Int → Int → Nat → Int → Int → qM → qM → Nat → Option (Int))} (hk831 : ∀ (x2 : Int) (x4 : Int) (x5 : Int) (x7 : Int) (x8 : Nat) (x10 : Int) (x11 : Int) (x12 : Nat) (x18 : Int) (x19 : Int) (p0 q0 : qM) (c0 : Nat), in32 x2 → in32 x4 → in32 x5 → in32 x7 → gK (y8 Y) x8 = 1000 + nn → in32 x10 → in32 x11 → gK (y8 Y) x12 = 5003 → in32 x18 → in32 x19 → qR (y7 Y) p0 → qR (y8 Y) q0 → k831 x2 x4 x5 x7 x8 x10 x11 x12 x18 x19 p0 q0 c0 = some res → yN Y c0 831 [(0, .ref (ya Y)), (1, .ref x), (2, .int (iZ x2)), (4, .int (iZ x4)), (5, .int (iZ x5)), (7, .int (iZ x7)), (8, .ref x8), (10, .int (iZ x10)), (11, .int (iZ x11)), (12, .ref x12), (18, .int (iZ x18)), (19, .int (iZ x19))] [] p0 q0)
    {x2 : Int} {x4 : Int} {x5 : Int} {x7 : Int} {x8 : Nat} {x10 : Int} {x11 : Int} {x12 : Nat} {x18 : Int} {x19 : Int} (r_x2 : in32 x2) (r_x4 : in32 x4) (r_x5 : in32 x5) (r_x7 : in32 x7) (k_x8 : gK (y8 Y) x8 = 1000 + nn) (r_x10 : in32 x10) (r_x11 : in32 x11) (k_x12 : gK (y8 Y) x12 = 5003) (r_x18 : in32 x18) (r_x19 : in32 x19) {p0 q0 : qM} {c0 : Nat} (hR_p0 : qR (y7 Y) p0) (hR_q0 : qR (y8 Y) q0)
    (h : f_Lc_831 N (y7 Y) x Ω (gK (y8 Y)) nn k831 x2 x4 x5 x7 x8 x10 x11 x12 x18 x19 p0 q0 c0 = some res) : yN Y c0 831 [(0, .ref (ya Y)), (1, .ref x), (2, .int (iZ x2)), (4, .int (iZ x4)), (5, .int (iZ x5)), (7, .int (iZ x7)), (8, .ref x8), (10, .int (iZ x10)), (11, .int (iZ x11)), (12, .ref x12), (18, .int (iZ x18)), (19, .int (iZ x19))] [] p0 q0 := by
  unfold f_Lc_831 at h
  refine p_iload hF (pc := 831) dL_law_831 11 rfl ?_
  refine p_iload hF (pc := 833) dL_law_833 4 rfl ?_
  refine p_icmp_ge hF (pc := 835) r_x19 r_x5 891 dL_law_835 (by decide) (fun t1 => ?_) (fun t1 => ?_)
  · have h := ite_f h t1
    refine p_aload_n hF (pc := 891) dL_law_891 1 rfl rfl ?_
    refine p_bipush hF (pc := 892) dL_law_892 (by decide) ?_
    obtain ⟨v3, p2, e_p2, h⟩ := kb2_e h
    refine p_call7 hF (pc := 894) [.int (iZ 7)] [.int (iZ 7)] 1 dL_law_894 (goodIn_l gL_law_X7_count) rfl dd_X7_count ⟨rfl, rfl⟩ rfl rfl rfl (k_X7_count (yl Y) hF.T7 hF.k7 (show in32 7 by decide) e_p2) (fun r_v3 hR_p2 => ?_)
    refine p_iload hF (pc := 897) dL_law_897 10 rfl ?_
    refine p_icmp_ne hF (pc := 899) r_v3 r_x18 945 dL_law_899 (by decide) (fun t4 => ?_) (fun t4 => ?_)
    · have h := ite_f h t4
      cases h
    · have h := ite_t h t4
      refine p_aload_n hF (pc := 902) dL_law_902 1 rfl rfl ?_
      refine p_bipush hF (pc := 903) dL_law_903 (by decide) ?_
      obtain ⟨v6, p5, e_p5, h⟩ := kb2_e h
      refine p_call7 hF (pc := 905) [.int (iZ 8)] [.int (iZ 8)] 1 dL_law_905 (goodIn_l gL_law_X7_count) rfl dd_X7_count ⟨rfl, rfl⟩ rfl rfl rfl (k_X7_count (yl Y) hF.T7 hF.k7 (show in32 8 by decide) e_p5) (fun r_v6 hR_p5 => ?_)
      refine p_iload hF (pc := 908) dL_law_908 8 rfl ?_
      refine p_icmp_ne hF (pc := 910) r_v6 r_x11 945 dL_law_910 (by decide) (fun t7 => ?_) (fun t7 => ?_)
      · have h := ite_f h t7
        cases h
      · have h := ite_t h t7
        refine p_aload_n hF (pc := 913) dL_law_913 1 rfl rfl ?_
        refine p_iconst hF (pc := 914) dL_law_914 ?_
        obtain ⟨v9, p8, e_p8, h⟩ := kb2_e h
        refine p_call7 hF (pc := 915) [.int (iZ 2)] [.int (iZ 2)] 1 dL_law_915 (goodIn_l gL_law_X7_count) rfl dd_X7_count ⟨rfl, rfl⟩ rfl rfl rfl (k_X7_count (yl Y) hF.T7 hF.k7 (show in32 2 by decide) e_p8) (fun r_v9 hR_p8 => ?_)
        refine p_bipush hF (pc := 918) dL_law_918 (by decide) ?_
        refine p_icmp_ne hF (pc := 920) r_v9 (by decide) 945 dL_law_920 (by decide) (fun t10 => ?_) (fun t10 => ?_)
        · have h := ite_f h t10
          cases h
        · have h := ite_t h t10
          refine p_aload_n hF (pc := 923) dL_law_923 1 rfl rfl ?_
          refine p_bipush hF (pc := 924) dL_law_924 (by decide) ?_
          obtain ⟨v11, e_v11, h⟩ := kp_e h
          refine p_call7 hF (pc := 926) [.int (iZ 9)] [.int (iZ 9)] 1 dL_law_926 gL_law_Y_position rfl dd_X7_position ⟨rfl, rfl⟩ rfl rfl rfl (k_X7_position_ok (yl Y) hF.T7 hF.k7 (by decide) (by decide) e_v11) (fun r_v11 _ => ?_)
          refine p_iload hF (pc := 929) dL_law_929 3 rfl ?_
          refine p_if_ne hF (pc := 931) r_x4 940 dL_law_931 (by decide) (fun t12 => ?_) (fun t12 => ?_)
          · have h := ite_f h t12
            refine p_iload hF (pc := 940) dL_law_940 8 rfl ?_
            refine p_sub (ls' := [(0, .ref (ya Y)), (1, .ref x), (2, .int (iZ x2)), (4, .int (iZ x4)), (7, .int (iZ x7)), (10, .int (iZ x10)), (12, .ref x12)]) [0, 1, 2, 3, 5, 7, 9] rfl ?_
            exact w_Lc_942 hF hΩ hnn hE  r_x2 r_x4 r_x7 r_x10 k_x12 r_v11 r_x11 hR_p8 hR_q0 h
          · have h := ite_t h t12
            refine p_iload hF (pc := 934) dL_law_934 8 rfl ?_
            obtain ⟨v13, e_v13, r_v13, h⟩ := ckI_e h
            refine p_ineg hF (pc := 936) dL_law_936 e_v13 ?_
            refine p_goto hF (pc := 937) 942 dL_law_937 (by decide) ?_
            refine p_sub (ls' := [(0, .ref (ya Y)), (1, .ref x), (2, .int (iZ x2)), (4, .int (iZ x4)), (7, .int (iZ x7)), (10, .int (iZ x10)), (12, .ref x12)]) [0, 1, 2, 3, 5, 7, 9] rfl ?_
            exact w_Lc_942 hF hΩ hnn hE  r_x2 r_x4 r_x7 r_x10 k_x12 r_v11 r_v13 hR_p8 hR_q0 h
  · have h := ite_t h t1
    refine p_aload hF (pc := 838) dL_law_838 6 rfl ?_
    refine p_iload hF (pc := 840) dL_law_840 11 rfl ?_
    obtain ⟨v14, e_v14, b_v14, h⟩ := rdA_e h
    have r_v14 : in32 v14 := by rw [e_v14]; exact hR_q0.a (n := nn) _ k_x8 hnn
    refine p_iald hF (pc := 842) nn dL_law_842 k_x8 hnn b_v14 e_v14 ?_
    refine p_aload hF (pc := 843) dL_law_843 9 rfl ?_
    refine p_iconst hF (pc := 845) dL_law_845 ?_
    obtain ⟨o15, e_o15, b_o15, k_o15, h⟩ := rdQ_e h
    refine p_aaldR hF (pc := 846) 3 dL_law_846 k_x12 (by decide) b_o15 e_o15 ?_
    refine p_iload hF (pc := 847) dL_law_847 11 rfl ?_
    obtain ⟨v16, e_v16, b_v16, h⟩ := rdA_e h
    have r_v16 : in32 v16 := by rw [e_v16]; exact hR_q0.a (n := nn) _ k_o15 hnn
    refine p_iald hF (pc := 849) nn dL_law_849 k_o15 hnn b_v16 e_v16 ?_
    obtain ⟨v17, e_v17, r_v17, h⟩ := ckI_e h
    refine p_isub hF (pc := 850) dL_law_850 e_v17 ?_
    refine p_aload hF (pc := 851) dL_law_851 9 rfl ?_
    refine p_iconst hF (pc := 853) dL_law_853 ?_
    obtain ⟨o18, e_o18, b_o18, k_o18, h⟩ := rdQ_e h
    refine p_aaldR hF (pc := 854) 3 dL_law_854 k_x12 (by decide) b_o18 e_o18 ?_
    refine p_iload hF (pc := 855) dL_law_855 11 rfl ?_
    obtain ⟨v19, e_v19, b_v19, h⟩ := rdA_e h
    have r_v19 : in32 v19 := by rw [e_v19]; exact hR_q0.a (n := nn) _ k_o18 hnn
    refine p_iald hF (pc := 857) nn dL_law_857 k_o18 hnn b_v19 e_v19 ?_
    obtain ⟨v20, e_v20, r_v20, h⟩ := ckI_e h
    refine p_isub hF (pc := 858) dL_law_858 e_v20 ?_
    refine p_aload hF (pc := 859) dL_law_859 9 rfl ?_
    refine p_iconst hF (pc := 861) dL_law_861 ?_
    obtain ⟨o21, e_o21, b_o21, k_o21, h⟩ := rdQ_e h
    refine p_aaldR hF (pc := 862) 3 dL_law_862 k_x12 (by decide) b_o21 e_o21 ?_
    refine p_iload hF (pc := 863) dL_law_863 11 rfl ?_
    obtain ⟨v22, e_v22, b_v22, h⟩ := rdA_e h
    have r_v22 : in32 v22 := by rw [e_v22]; exact hR_q0.a (n := nn) _ k_o21 hnn
    refine p_iald hF (pc := 865) nn dL_law_865 k_o21 hnn b_v22 e_v22 ?_
    obtain ⟨v23, e_v23, r_v23, h⟩ := ckI_e h
    refine p_isub hF (pc := 866) dL_law_866 e_v23 ?_
    refine p_istore hF (pc := 867) (ls' := [(20, .int (iZ v23)), (0, .ref (ya Y)), (1, .ref x), (2, .int (iZ x2)), (4, .int (iZ x4)), (5, .int (iZ x5)), (7, .int (iZ x7)), (8, .ref x8), (10, .int (iZ x10)), (11, .int (iZ x11)), (12, .ref x12), (18, .int (iZ x18)), (19, .int (iZ x19))]) dL_law_867 rfl rfl ?_
    refine p_aload_n hF (pc := 869) dL_law_869 2 rfl rfl ?_
    refine p_iload hF (pc := 870) dL_law_870 6 rfl ?_
    refine p_iload hF (pc := 872) dL_law_872 12 rfl ?_
    obtain ⟨v24, e_v24, r_v24, h⟩ := ckI_e h
    refine p_iadd hF (pc := 874) dL_law_874 e_v24 ?_
    refine p_size hF hΩ r_v24 (pc := 875) dL_law_875 rfl h (fun v25 c26 r_v25 h => ?_)
    refine p_iload hF (pc := 878) dL_law_878 0 rfl ?_
    refine p_icmp_eq hF (pc := 880) r_v25 r_v23 885 dL_law_880 (by decide) (fun t27 => ?_) (fun t27 => ?_)
    · have h := ite_t h t27
      obtain ⟨v28, e_v28, r_v28, h⟩ := ckI_e h
      refine p_iinc hF (pc := 885) (ls' := [(19, .int (iZ v28)), (20, .int (iZ v23)), (0, .ref (ya Y)), (1, .ref x), (2, .int (iZ x2)), (4, .int (iZ x4)), (5, .int (iZ x5)), (7, .int (iZ x7)), (8, .ref x8), (10, .int (iZ x10)), (11, .int (iZ x11)), (12, .ref x12), (18, .int (iZ x18))]) dL_law_885 12 rfl e_v28 rfl rfl ?_
      refine p_goto hF (pc := 888) 831 dL_law_888 (by decide) ?_
      refine p_sub (ls' := [(0, .ref (ya Y)), (1, .ref x), (2, .int (iZ x2)), (4, .int (iZ x4)), (5, .int (iZ x5)), (7, .int (iZ x7)), (8, .ref x8), (10, .int (iZ x10)), (11, .int (iZ x11)), (12, .ref x12), (18, .int (iZ x18)), (19, .int (iZ v28))]) [2, 3, 4, 5, 6, 7, 8, 9, 10, 11, 12, 0] rfl ?_
      exact hk831 x2 x4 x5 x7 x8 x10 x11 x12 x18 v28 p0 q0 c26 r_x2 r_x4 r_x5 r_x7 k_x8 r_x10 r_x11 k_x12 r_x18 r_v28 hR_p0 hR_q0 h
    · have h := ite_f h t27
      cases h
set_option maxHeartbeats 4000000 in
set_option maxRecDepth 20000 in
theorem w_Lc_L831 {Y : lB} {L : Nat} {xs : Nat → Int32} {ρ : Nat → Nat × Nat} {x : Nat} {sa : Nat × Nat × Nat} {N nn : Nat} {Ω : oB} (hF : yF Y L xs ρ x sa) (hΩ : yOk Y xs L x sa Ω) (hnn : nn < 1000) {res : Int} (hE : res = 1) 
    {x2 : Int} {x4 : Int} {x5 : Int} {x7 : Int} {x8 : Nat} {x10 : Int} {x11 : Int} {x12 : Nat} {x18 : Int} {x19 : Int} (r_x2 : in32 x2) (r_x4 : in32 x4) (r_x5 : in32 x5) (r_x7 : in32 x7) (k_x8 : gK (y8 Y) x8 = 1000 + nn) (r_x10 : in32 x10) (r_x11 : in32 x11) (k_x12 : gK (y8 Y) x12 = 5003) (r_x18 : in32 x18) (r_x19 : in32 x19) {p0 q0 : qM} {c0 : Nat} (hR_p0 : qR (y7 Y) p0) (hR_q0 : qR (y8 Y) q0)
    (h : f_Lc_L831 N (y7 Y) x Ω (gK (y8 Y)) nn  x2 x4 x5 x7 x8 x10 x11 x12 x18 x19 p0 q0 c0 = some res) : yN Y c0 831 [(0, .ref (ya Y)), (1, .ref x), (2, .int (iZ x2)), (4, .int (iZ x4)), (5, .int (iZ x5)), (7, .int (iZ x7)), (8, .ref x8), (10, .int (iZ x10)), (11, .int (iZ x11)), (12, .ref x12), (18, .int (iZ x18)), (19, .int (iZ x19))] [] p0 q0 := by
  unfold f_Lc_L831 at h
  exact qLoop_w (σ := Int × Int × Int × Int × Nat × Int × Int × Nat × Int × Int × qM × qM × Nat) (P := fun z => in32 z.1 ∧ in32 z.2.1 ∧ in32 z.2.2.1 ∧ in32 z.2.2.2.1 ∧ gK (y8 Y) z.2.2.2.2.1 = 1000 + nn ∧ in32 z.2.2.2.2.2.1 ∧ in32 z.2.2.2.2.2.2.1 ∧ gK (y8 Y) z.2.2.2.2.2.2.2.1 = 5003 ∧ in32 z.2.2.2.2.2.2.2.2.1 ∧ in32 z.2.2.2.2.2.2.2.2.2.1 ∧ qR (y7 Y) z.2.2.2.2.2.2.2.2.2.2.1 ∧ qR (y8 Y) z.2.2.2.2.2.2.2.2.2.2.2.1) (Q := fun z => yN Y z.2.2.2.2.2.2.2.2.2.2.2.2 831 [(0, .ref (ya Y)), (1, .ref x), (2, .int (iZ z.1)), (4, .int (iZ z.2.1)), (5, .int (iZ z.2.2.1)), (7, .int (iZ z.2.2.2.1)), (8, .ref z.2.2.2.2.1), (10, .int (iZ z.2.2.2.2.2.1)), (11, .int (iZ z.2.2.2.2.2.2.1)), (12, .ref z.2.2.2.2.2.2.2.1), (18, .int (iZ z.2.2.2.2.2.2.2.2.1)), (19, .int (iZ z.2.2.2.2.2.2.2.2.2.1))] [] z.2.2.2.2.2.2.2.2.2.2.1 z.2.2.2.2.2.2.2.2.2.2.2.1) (fun k hrec z hp hh => w_Lc_831 hF hΩ hnn hE (fun x2 x4 x5 x7 x8 x10 x11 x12 x18 x19 p0 q0 c0 w0 w1 w2 w3 w4 w5 w6 w7 w8 w9 w10 w11 hh => hrec (x2, x4, x5, x7, x8, x10, x11, x12, x18, x19, p0, q0, c0) ⟨w0, w1, w2, w3, w4, w5, w6, w7, w8, w9, w10, w11⟩ hh) hp.1 hp.2.1 hp.2.2.1 hp.2.2.2.1 hp.2.2.2.2.1 hp.2.2.2.2.2.1 hp.2.2.2.2.2.2.1 hp.2.2.2.2.2.2.2.1 hp.2.2.2.2.2.2.2.2.1 hp.2.2.2.2.2.2.2.2.2.1 hp.2.2.2.2.2.2.2.2.2.2.1 hp.2.2.2.2.2.2.2.2.2.2.2 hh) N (x2, x4, x5, x7, x8, x10, x11, x12, x18, x19, p0, q0, c0) ⟨r_x2, r_x4, r_x5, r_x7, k_x8, r_x10, r_x11, k_x12, r_x18, r_x19, hR_p0, hR_q0⟩ h
set_option maxHeartbeats 4000000 in
set_option maxRecDepth 20000 in
theorem w_Lc_816 {Y : lB} {L : Nat} {xs : Nat → Int32} {ρ : Nat → Nat × Nat} {x : Nat} {sa : Nat × Nat × Nat} {N nn : Nat} {Ω : oB} (hF : yF Y L xs ρ x sa) (hΩ : yOk Y xs L x sa Ω) (hnn : nn < 1000) {res : Int} (hE : res = 1) {k712 : (Int → Int → Int → Int → Nat → Int → Int → Nat → Int → Int → Int → qM → qM → Nat → Option (Int))} (hk712 : ∀ (x2 : Int) (x4 : Int) (x5 : Int) (x7 : Int) (x8 : Nat) (x10 : Int) (x11 : Int) (x12 : Nat) (x17 : Int) (x18 : Int) (x19 : Int) (p0 q0 : qM) (c0 : Nat), in32 x2 → in32 x4 → in32 x5 → in32 x7 → gK (y8 Y) x8 = 1000 + nn → in32 x10 → in32 x11 → gK (y8 Y) x12 = 5003 → in32 x17 → in32 x18 → in32 x19 → qR (y7 Y) p0 → qR (y8 Y) q0 → k712 x2 x4 x5 x7 x8 x10 x11 x12 x17 x18 x19 p0 q0 c0 = some res → yN Y c0 712 [(0, .ref (ya Y)), (1, .ref x), (2, .int (iZ x2)), (4, .int (iZ x4)), (5, .int (iZ x5)), (7, .int (iZ x7)), (8, .ref x8), (10, .int (iZ x10)), (11, .int (iZ x11)), (12, .ref x12), (17, .int (iZ x17)), (18, .int (iZ x18)), (19, .int (iZ x19))] [] p0 q0) {k723 : (Int → Int → Int → Int → Nat → Int → Int → Nat → Int → Int → Int → Int → qM → qM → Nat → Option (Int))} (hk723 : ∀ (x2 : Int) (x4 : Int) (x5 : Int) (x7 : Int) (x8 : Nat) (x10 : Int) (x11 : Int) (x12 : Nat) (x17 : Int) (x18 : Int) (x19 : Int) (x20 : Int) (p0 q0 : qM) (c0 : Nat), in32 x2 → in32 x4 → in32 x5 → in32 x7 → gK (y8 Y) x8 = 1000 + nn → in32 x10 → in32 x11 → gK (y8 Y) x12 = 5003 → in32 x17 → in32 x18 → in32 x19 → in32 x20 → qR (y7 Y) p0 → qR (y8 Y) q0 → k723 x2 x4 x5 x7 x8 x10 x11 x12 x17 x18 x19 x20 p0 q0 c0 = some res → yN Y c0 723 [(0, .ref (ya Y)), (1, .ref x), (2, .int (iZ x2)), (4, .int (iZ x4)), (5, .int (iZ x5)), (7, .int (iZ x7)), (8, .ref x8), (10, .int (iZ x10)), (11, .int (iZ x11)), (12, .ref x12), (17, .int (iZ x17)), (18, .int (iZ x18)), (19, .int (iZ x19)), (20, .int (iZ x20))] [] p0 q0)
    {x2 : Int} {x4 : Int} {x5 : Int} {x7 : Int} {x8 : Nat} {x10 : Int} {x11 : Int} {x12 : Nat} {x17 : Int} {x18 : Int} {x19 : Int} {x20 : Int} (r_x2 : in32 x2) (r_x4 : in32 x4) (r_x5 : in32 x5) (r_x7 : in32 x7) (k_x8 : gK (y8 Y) x8 = 1000 + nn) (r_x10 : in32 x10) (r_x11 : in32 x11) (k_x12 : gK (y8 Y) x12 = 5003) (r_x17 : in32 x17) (r_x18 : in32 x18) (r_x19 : in32 x19) (r_x20 : in32 x20) {p0 q0 : qM} {c0 : Nat} (hR_p0 : qR (y7 Y) p0) (hR_q0 : qR (y8 Y) q0)
    (h : f_Lc_816 N (y7 Y) x Ω (gK (y8 Y)) nn k712 k723 x2 x4 x5 x7 x8 x10 x11 x12 x17 x18 x19 x20 p0 q0 c0 = some res) : yN Y c0 816 [(0, .ref (ya Y)), (1, .ref x), (2, .int (iZ x2)), (4, .int (iZ x4)), (5, .int (iZ x5)), (7, .int (iZ x7)), (8, .ref x8), (10, .int (iZ x10)), (11, .int (iZ x11)), (12, .ref x12), (17, .int (iZ x17)), (18, .int (iZ x18)), (19, .int (iZ x19)), (20, .int (iZ x20))] [] p0 q0 := by
  unfold f_Lc_816 at h
  obtain ⟨v1, e_v1, r_v1, h⟩ := ckI_e h
  refine p_iinc hF (pc := 816) (ls' := [(20, .int (iZ v1)), (0, .ref (ya Y)), (1, .ref x), (2, .int (iZ x2)), (4, .int (iZ x4)), (5, .int (iZ x5)), (7, .int (iZ x7)), (8, .ref x8), (10, .int (iZ x10)), (11, .int (iZ x11)), (12, .ref x12), (17, .int (iZ x17)), (18, .int (iZ x18)), (19, .int (iZ x19))]) dL_law_816 13 rfl e_v1 rfl rfl ?_
  refine p_goto hF (pc := 819) 723 dL_law_819 (by decide) ?_
  refine p_sub (ls' := [(0, .ref (ya Y)), (1, .ref x), (2, .int (iZ x2)), (4, .int (iZ x4)), (5, .int (iZ x5)), (7, .int (iZ x7)), (8, .ref x8), (10, .int (iZ x10)), (11, .int (iZ x11)), (12, .ref x12), (17, .int (iZ x17)), (18, .int (iZ x18)), (19, .int (iZ x19)), (20, .int (iZ v1))]) [1, 2, 3, 4, 5, 6, 7, 8, 9, 10, 11, 12, 13, 0] rfl ?_
  exact hk723 x2 x4 x5 x7 x8 x10 x11 x12 x17 x18 x19 v1 p0 q0 c0 r_x2 r_x4 r_x5 r_x7 k_x8 r_x10 r_x11 k_x12 r_x17 r_x18 r_x19 r_v1 hR_p0 hR_q0 h
set_option maxHeartbeats 4000000 in
set_option maxRecDepth 20000 in
theorem w_Lc_723 {Y : lB} {L : Nat} {xs : Nat → Int32} {ρ : Nat → Nat × Nat} {x : Nat} {sa : Nat × Nat × Nat} {N nn : Nat} {Ω : oB} (hF : yF Y L xs ρ x sa) (hΩ : yOk Y xs L x sa Ω) (hnn : nn < 1000) {res : Int} (hE : res = 1) {k712 : (Int → Int → Int → Int → Nat → Int → Int → Nat → Int → Int → Int → qM → qM → Nat → Option (Int))} (hk712 : ∀ (x2 : Int) (x4 : Int) (x5 : Int) (x7 : Int) (x8 : Nat) (x10 : Int) (x11 : Int) (x12 : Nat) (x17 : Int) (x18 : Int) (x19 : Int) (p0 q0 : qM) (c0 : Nat), in32 x2 → in32 x4 → in32 x5 → in32 x7 → gK (y8 Y) x8 = 1000 + nn → in32 x10 → in32 x11 → gK (y8 Y) x12 = 5003 → in32 x17 → in32 x18 → in32 x19 → qR (y7 Y) p0 → qR (y8 Y) q0 → k712 x2 x4 x5 x7 x8 x10 x11 x12 x17 x18 x19 p0 q0 c0 = some res → yN Y c0 712 [(0, .ref (ya Y)), (1, .ref x), (2, .int (iZ x2)), (4, .int (iZ x4)), (5, .int (iZ x5)), (7, .int (iZ x7)), (8, .ref x8), (10, .int (iZ x10)), (11, .int (iZ x11)), (12, .ref x12), (17, .int (iZ x17)), (18, .int (iZ x18)), (19, .int (iZ x19))] [] p0 q0) {k723 : (Int → Int → Int → Int → Nat → Int → Int → Nat → Int → Int → Int → Int → qM → qM → Nat → Option (Int))} (hk723 : ∀ (x2 : Int) (x4 : Int) (x5 : Int) (x7 : Int) (x8 : Nat) (x10 : Int) (x11 : Int) (x12 : Nat) (x17 : Int) (x18 : Int) (x19 : Int) (x20 : Int) (p0 q0 : qM) (c0 : Nat), in32 x2 → in32 x4 → in32 x5 → in32 x7 → gK (y8 Y) x8 = 1000 + nn → in32 x10 → in32 x11 → gK (y8 Y) x12 = 5003 → in32 x17 → in32 x18 → in32 x19 → in32 x20 → qR (y7 Y) p0 → qR (y8 Y) q0 → k723 x2 x4 x5 x7 x8 x10 x11 x12 x17 x18 x19 x20 p0 q0 c0 = some res → yN Y c0 723 [(0, .ref (ya Y)), (1, .ref x), (2, .int (iZ x2)), (4, .int (iZ x4)), (5, .int (iZ x5)), (7, .int (iZ x7)), (8, .ref x8), (10, .int (iZ x10)), (11, .int (iZ x11)), (12, .ref x12), (17, .int (iZ x17)), (18, .int (iZ x18)), (19, .int (iZ x19)), (20, .int (iZ x20))] [] p0 q0)
    {x2 : Int} {x4 : Int} {x5 : Int} {x7 : Int} {x8 : Nat} {x10 : Int} {x11 : Int} {x12 : Nat} {x17 : Int} {x18 : Int} {x19 : Int} {x20 : Int} (r_x2 : in32 x2) (r_x4 : in32 x4) (r_x5 : in32 x5) (r_x7 : in32 x7) (k_x8 : gK (y8 Y) x8 = 1000 + nn) (r_x10 : in32 x10) (r_x11 : in32 x11) (k_x12 : gK (y8 Y) x12 = 5003) (r_x17 : in32 x17) (r_x18 : in32 x18) (r_x19 : in32 x19) (r_x20 : in32 x20) {p0 q0 : qM} {c0 : Nat} (hR_p0 : qR (y7 Y) p0) (hR_q0 : qR (y8 Y) q0)
    (h : f_Lc_723 N (y7 Y) x Ω (gK (y8 Y)) nn k712 k723 x2 x4 x5 x7 x8 x10 x11 x12 x17 x18 x19 x20 p0 q0 c0 = some res) : yN Y c0 723 [(0, .ref (ya Y)), (1, .ref x), (2, .int (iZ x2)), (4, .int (iZ x4)), (5, .int (iZ x5)), (7, .int (iZ x7)), (8, .ref x8), (10, .int (iZ x10)), (11, .int (iZ x11)), (12, .ref x12), (17, .int (iZ x17)), (18, .int (iZ x18)), (19, .int (iZ x19)), (20, .int (iZ x20))] [] p0 q0 := by
  unfold f_Lc_723 at h
  refine p_iload hF (pc := 723) dL_law_723 13 rfl ?_
  refine p_if_lt hF (pc := 725) r_x20 822 dL_law_725 (by decide) (fun t1 => ?_) (fun t1 => ?_)
  · have h := ite_t h t1
    obtain ⟨v2, e_v2, r_v2, h⟩ := ckI_e h
    refine p_iinc hF (pc := 822) (ls' := [(19, .int (iZ v2)), (0, .ref (ya Y)), (1, .ref x), (2, .int (iZ x2)), (4, .int (iZ x4)), (5, .int (iZ x5)), (7, .int (iZ x7)), (8, .ref x8), (10, .int (iZ x10)), (11, .int (iZ x11)), (12, .ref x12), (17, .int (iZ x17)), (18, .int (iZ x18)), (20, .int (iZ x20))]) dL_law_822 12 rfl e_v2 rfl rfl ?_
    refine p_goto hF (pc := 825) 712 dL_law_825 (by decide) ?_
    refine p_sub (ls' := [(0, .ref (ya Y)), (1, .ref x), (2, .int (iZ x2)), (4, .int (iZ x4)), (5, .int (iZ x5)), (7, .int (iZ x7)), (8, .ref x8), (10, .int (iZ x10)), (11, .int (iZ x11)), (12, .ref x12), (17, .int (iZ x17)), (18, .int (iZ x18)), (19, .int (iZ v2))]) [1, 2, 3, 4, 5, 6, 7, 8, 9, 10, 11, 12, 0] rfl ?_
    exact hk712 x2 x4 x5 x7 x8 x10 x11 x12 x17 x18 v2 p0 q0 c0 r_x2 r_x4 r_x5 r_x7 k_x8 r_x10 r_x11 k_x12 r_x17 r_x18 r_v2 hR_p0 hR_q0 h
  · have h := ite_f h t1
    refine p_aload hF (pc := 728) dL_law_728 9 rfl ?_
    refine p_iload hF (pc := 730) dL_law_730 12 rfl ?_
    obtain ⟨o3, e_o3, b_o3, k_o3, h⟩ := rdQ_e h
    refine p_aaldR hF (pc := 732) 3 dL_law_732 k_x12 (by decide) b_o3 e_o3 ?_
    refine p_iload hF (pc := 733) dL_law_733 13 rfl ?_
    obtain ⟨v4, e_v4, b_v4, h⟩ := rdA_e h
    have r_v4 : in32 v4 := by rw [e_v4]; exact hR_q0.a (n := nn) _ k_o3 hnn
    refine p_iald hF (pc := 735) nn dL_law_735 k_o3 hnn b_v4 e_v4 ?_
    refine p_if_ne hF (pc := 736) r_v4 742 dL_law_736 (by decide) (fun t5 => ?_) (fun t5 => ?_)
    · have h := ite_f h t5
      refine p_aload_n hF (pc := 742) dL_law_742 1 rfl rfl ?_
      refine p_iload hF (pc := 743) dL_law_743 11 rfl ?_
      refine p_iconst hF (pc := 745) dL_law_745 ?_
      obtain ⟨v7, p6, e_p6, h⟩ := kb2_e h
      refine p_call7 hF (pc := 746) [.int (iZ x18), .int (iZ 0)] [.int (iZ 0), .int (iZ x18)] 2 dL_law_746 (goodIn_l gL_law_X7_trade) rfl dd_X7_trade ⟨rfl, rfl⟩ rfl rfl rfl (k_X7_trade (yl Y) hF.T7 hF.k7 r_x18 (show in32 0 by decide) e_p6) (fun r_v7 hR_p6 => ?_)
      refine p_iload hF (pc := 749) dL_law_749 5 rfl ?_
      refine p_iload hF (pc := 751) dL_law_751 13 rfl ?_
      obtain ⟨v8, e_v8, r_v8, h⟩ := ckI_e h
      refine p_iadd hF (pc := 753) dL_law_753 e_v8 ?_
      refine p_icmp_ne hF (pc := 754) r_v7 r_v8 811 dL_law_754 (by decide) (fun t9 => ?_) (fun t9 => ?_)
      · have h := ite_f h t9
        cases h
      · have h := ite_t h t9
        refine p_aload_n hF (pc := 757) dL_law_757 1 rfl rfl ?_
        refine p_iload hF (pc := 758) dL_law_758 11 rfl ?_
        refine p_iconst hF (pc := 760) dL_law_760 ?_
        obtain ⟨v11, p10, e_p10, h⟩ := kb2_e h
        refine p_call7 hF (pc := 761) [.int (iZ x18), .int (iZ 1)] [.int (iZ 1), .int (iZ x18)] 2 dL_law_761 (goodIn_l gL_law_X7_trade) rfl dd_X7_trade ⟨rfl, rfl⟩ rfl rfl rfl (k_X7_trade (yl Y) hF.T7 hF.k7 r_x18 (show in32 1 by decide) e_p10) (fun r_v11 hR_p10 => ?_)
        refine p_iload hF (pc := 764) dL_law_764 10 rfl ?_
        refine p_icmp_ne hF (pc := 766) r_v11 r_x17 811 dL_law_766 (by decide) (fun t12 => ?_) (fun t12 => ?_)
        · have h := ite_f h t12
          cases h
        · have h := ite_t h t12
          refine p_aload_n hF (pc := 769) dL_law_769 1 rfl rfl ?_
          refine p_iload hF (pc := 770) dL_law_770 11 rfl ?_
          refine p_iconst hF (pc := 772) dL_law_772 ?_
          obtain ⟨v14, p13, e_p13, h⟩ := kb2_e h
          refine p_call7 hF (pc := 773) [.int (iZ x18), .int (iZ 2)] [.int (iZ 2), .int (iZ x18)] 2 dL_law_773 (goodIn_l gL_law_X7_trade) rfl dd_X7_trade ⟨rfl, rfl⟩ rfl rfl rfl (k_X7_trade (yl Y) hF.T7 hF.k7 r_x18 (show in32 2 by decide) e_p13) (fun r_v14 hR_p13 => ?_)
          refine p_bipush hF (pc := 776) dL_law_776 (by decide) ?_
          refine p_icmp_ne hF (pc := 778) r_v14 (by decide) 811 dL_law_778 (by decide) (fun t15 => ?_) (fun t15 => ?_)
          · have h := ite_f h t15
            cases h
          · have h := ite_t h t15
            refine p_aload_n hF (pc := 781) dL_law_781 1 rfl rfl ?_
            refine p_iload hF (pc := 782) dL_law_782 11 rfl ?_
            refine p_iconst hF (pc := 784) dL_law_784 ?_
            obtain ⟨v17, p16, e_p16, h⟩ := kb2_e h
            refine p_call7 hF (pc := 785) [.int (iZ x18), .int (iZ 3)] [.int (iZ 3), .int (iZ x18)] 2 dL_law_785 (goodIn_l gL_law_X7_trade) rfl dd_X7_trade ⟨rfl, rfl⟩ rfl rfl rfl (k_X7_trade (yl Y) hF.T7 hF.k7 r_x18 (show in32 3 by decide) e_p16) (fun r_v17 hR_p16 => ?_)
            refine p_aload hF (pc := 788) dL_law_788 9 rfl ?_
            refine p_iload hF (pc := 790) dL_law_790 12 rfl ?_
            obtain ⟨o18, e_o18, b_o18, k_o18, h⟩ := rdQ_e h
            refine p_aaldR hF (pc := 792) 3 dL_law_792 k_x12 (by decide) b_o18 e_o18 ?_
            refine p_iload hF (pc := 793) dL_law_793 13 rfl ?_
            obtain ⟨v19, e_v19, b_v19, h⟩ := rdA_e h
            have r_v19 : in32 v19 := by rw [e_v19]; exact hR_q0.a (n := nn) _ k_o18 hnn
            refine p_iald hF (pc := 795) nn dL_law_795 k_o18 hnn b_v19 e_v19 ?_
            refine p_icmp_ne hF (pc := 796) r_v17 r_v19 811 dL_law_796 (by decide) (fun t20 => ?_) (fun t20 => ?_)
            · have h := ite_f h t20
              cases h
            · have h := ite_t h t20
              refine p_aload_n hF (pc := 799) dL_law_799 1 rfl rfl ?_
              refine p_iload hF (pc := 800) dL_law_800 11 rfl ?_
              refine p_iconst hF (pc := 802) dL_law_802 ?_
              obtain ⟨v22, p21, e_p21, h⟩ := kb2_e h
              refine p_call7 hF (pc := 803) [.int (iZ x18), .int (iZ 4)] [.int (iZ 4), .int (iZ x18)] 2 dL_law_803 (goodIn_l gL_law_X7_trade) rfl dd_X7_trade ⟨rfl, rfl⟩ rfl rfl rfl (k_X7_trade (yl Y) hF.T7 hF.k7 r_x18 (show in32 4 by decide) e_p21) (fun r_v22 hR_p21 => ?_)
              refine p_iload hF (pc := 806) dL_law_806 12 rfl ?_
              refine p_icmp_eq hF (pc := 808) r_v22 r_x19 813 dL_law_808 (by decide) (fun t23 => ?_) (fun t23 => ?_)
              · have h := ite_t h t23
                obtain ⟨v24, e_v24, r_v24, h⟩ := ckI_e h
                refine p_iinc hF (pc := 813) (ls' := [(18, .int (iZ v24)), (0, .ref (ya Y)), (1, .ref x), (2, .int (iZ x2)), (4, .int (iZ x4)), (5, .int (iZ x5)), (7, .int (iZ x7)), (8, .ref x8), (10, .int (iZ x10)), (11, .int (iZ x11)), (12, .ref x12), (17, .int (iZ x17)), (19, .int (iZ x19)), (20, .int (iZ x20))]) dL_law_813 11 rfl e_v24 rfl rfl ?_
                refine p_sub (ls' := [(0, .ref (ya Y)), (1, .ref x), (2, .int (iZ x2)), (4, .int (iZ x4)), (5, .int (iZ x5)), (7, .int (iZ x7)), (8, .ref x8), (10, .int (iZ x10)), (11, .int (iZ x11)), (12, .ref x12), (17, .int (iZ x17)), (18, .int (iZ v24)), (19, .int (iZ x19)), (20, .int (iZ x20))]) [1, 2, 3, 4, 5, 6, 7, 8, 9, 10, 11, 0, 12, 13] rfl ?_
                exact w_Lc_816 hF hΩ hnn hE hk712 hk723 r_x2 r_x4 r_x5 r_x7 k_x8 r_x10 r_x11 k_x12 r_x17 r_v24 r_x19 r_x20 hR_p21 hR_q0 h
              · have h := ite_f h t23
                cases h
    · have h := ite_t h t5
      refine p_goto hF (pc := 739) 816 dL_law_739 (by decide) ?_
      refine p_sub (ls' := [(0, .ref (ya Y)), (1, .ref x), (2, .int (iZ x2)), (4, .int (iZ x4)), (5, .int (iZ x5)), (7, .int (iZ x7)), (8, .ref x8), (10, .int (iZ x10)), (11, .int (iZ x11)), (12, .ref x12), (17, .int (iZ x17)), (18, .int (iZ x18)), (19, .int (iZ x19)), (20, .int (iZ x20))]) [0, 1, 2, 3, 4, 5, 6, 7, 8, 9, 10, 11, 12, 13] rfl ?_
      exact w_Lc_816 hF hΩ hnn hE hk712 hk723 r_x2 r_x4 r_x5 r_x7 k_x8 r_x10 r_x11 k_x12 r_x17 r_x18 r_x19 r_x20 hR_p0 hR_q0 h
set_option maxHeartbeats 4000000 in
set_option maxRecDepth 20000 in
theorem w_Lc_L723 {Y : lB} {L : Nat} {xs : Nat → Int32} {ρ : Nat → Nat × Nat} {x : Nat} {sa : Nat × Nat × Nat} {N nn : Nat} {Ω : oB} (hF : yF Y L xs ρ x sa) (hΩ : yOk Y xs L x sa Ω) (hnn : nn < 1000) {res : Int} (hE : res = 1) {k712 : (Int → Int → Int → Int → Nat → Int → Int → Nat → Int → Int → Int → qM → qM → Nat → Option (Int))} (hk712 : ∀ (x2 : Int) (x4 : Int) (x5 : Int) (x7 : Int) (x8 : Nat) (x10 : Int) (x11 : Int) (x12 : Nat) (x17 : Int) (x18 : Int) (x19 : Int) (p0 q0 : qM) (c0 : Nat), in32 x2 → in32 x4 → in32 x5 → in32 x7 → gK (y8 Y) x8 = 1000 + nn → in32 x10 → in32 x11 → gK (y8 Y) x12 = 5003 → in32 x17 → in32 x18 → in32 x19 → qR (y7 Y) p0 → qR (y8 Y) q0 → k712 x2 x4 x5 x7 x8 x10 x11 x12 x17 x18 x19 p0 q0 c0 = some res → yN Y c0 712 [(0, .ref (ya Y)), (1, .ref x), (2, .int (iZ x2)), (4, .int (iZ x4)), (5, .int (iZ x5)), (7, .int (iZ x7)), (8, .ref x8), (10, .int (iZ x10)), (11, .int (iZ x11)), (12, .ref x12), (17, .int (iZ x17)), (18, .int (iZ x18)), (19, .int (iZ x19))] [] p0 q0)
    {x2 : Int} {x4 : Int} {x5 : Int} {x7 : Int} {x8 : Nat} {x10 : Int} {x11 : Int} {x12 : Nat} {x17 : Int} {x18 : Int} {x19 : Int} {x20 : Int} (r_x2 : in32 x2) (r_x4 : in32 x4) (r_x5 : in32 x5) (r_x7 : in32 x7) (k_x8 : gK (y8 Y) x8 = 1000 + nn) (r_x10 : in32 x10) (r_x11 : in32 x11) (k_x12 : gK (y8 Y) x12 = 5003) (r_x17 : in32 x17) (r_x18 : in32 x18) (r_x19 : in32 x19) (r_x20 : in32 x20) {p0 q0 : qM} {c0 : Nat} (hR_p0 : qR (y7 Y) p0) (hR_q0 : qR (y8 Y) q0)
    (h : f_Lc_L723 N (y7 Y) x Ω (gK (y8 Y)) nn k712 x2 x4 x5 x7 x8 x10 x11 x12 x17 x18 x19 x20 p0 q0 c0 = some res) : yN Y c0 723 [(0, .ref (ya Y)), (1, .ref x), (2, .int (iZ x2)), (4, .int (iZ x4)), (5, .int (iZ x5)), (7, .int (iZ x7)), (8, .ref x8), (10, .int (iZ x10)), (11, .int (iZ x11)), (12, .ref x12), (17, .int (iZ x17)), (18, .int (iZ x18)), (19, .int (iZ x19)), (20, .int (iZ x20))] [] p0 q0 := by
  unfold f_Lc_L723 at h
  exact qLoop_w (σ := Int × Int × Int × Int × Nat × Int × Int × Nat × Int × Int × Int × Int × qM × qM × Nat) (P := fun z => in32 z.1 ∧ in32 z.2.1 ∧ in32 z.2.2.1 ∧ in32 z.2.2.2.1 ∧ gK (y8 Y) z.2.2.2.2.1 = 1000 + nn ∧ in32 z.2.2.2.2.2.1 ∧ in32 z.2.2.2.2.2.2.1 ∧ gK (y8 Y) z.2.2.2.2.2.2.2.1 = 5003 ∧ in32 z.2.2.2.2.2.2.2.2.1 ∧ in32 z.2.2.2.2.2.2.2.2.2.1 ∧ in32 z.2.2.2.2.2.2.2.2.2.2.1 ∧ in32 z.2.2.2.2.2.2.2.2.2.2.2.1 ∧ qR (y7 Y) z.2.2.2.2.2.2.2.2.2.2.2.2.1 ∧ qR (y8 Y) z.2.2.2.2.2.2.2.2.2.2.2.2.2.1) (Q := fun z => yN Y z.2.2.2.2.2.2.2.2.2.2.2.2.2.2 723 [(0, .ref (ya Y)), (1, .ref x), (2, .int (iZ z.1)), (4, .int (iZ z.2.1)), (5, .int (iZ z.2.2.1)), (7, .int (iZ z.2.2.2.1)), (8, .ref z.2.2.2.2.1), (10, .int (iZ z.2.2.2.2.2.1)), (11, .int (iZ z.2.2.2.2.2.2.1)), (12, .ref z.2.2.2.2.2.2.2.1), (17, .int (iZ z.2.2.2.2.2.2.2.2.1)), (18, .int (iZ z.2.2.2.2.2.2.2.2.2.1)), (19, .int (iZ z.2.2.2.2.2.2.2.2.2.2.1)), (20, .int (iZ z.2.2.2.2.2.2.2.2.2.2.2.1))] [] z.2.2.2.2.2.2.2.2.2.2.2.2.1 z.2.2.2.2.2.2.2.2.2.2.2.2.2.1) (fun k hrec z hp hh => w_Lc_723 hF hΩ hnn hE hk712 (fun x2 x4 x5 x7 x8 x10 x11 x12 x17 x18 x19 x20 p0 q0 c0 w0 w1 w2 w3 w4 w5 w6 w7 w8 w9 w10 w11 w12 w13 hh => hrec (x2, x4, x5, x7, x8, x10, x11, x12, x17, x18, x19, x20, p0, q0, c0) ⟨w0, w1, w2, w3, w4, w5, w6, w7, w8, w9, w10, w11, w12, w13⟩ hh) hp.1 hp.2.1 hp.2.2.1 hp.2.2.2.1 hp.2.2.2.2.1 hp.2.2.2.2.2.1 hp.2.2.2.2.2.2.1 hp.2.2.2.2.2.2.2.1 hp.2.2.2.2.2.2.2.2.1 hp.2.2.2.2.2.2.2.2.2.1 hp.2.2.2.2.2.2.2.2.2.2.1 hp.2.2.2.2.2.2.2.2.2.2.2.1 hp.2.2.2.2.2.2.2.2.2.2.2.2.1 hp.2.2.2.2.2.2.2.2.2.2.2.2.2 hh) N (x2, x4, x5, x7, x8, x10, x11, x12, x17, x18, x19, x20, p0, q0, c0) ⟨r_x2, r_x4, r_x5, r_x7, k_x8, r_x10, r_x11, k_x12, r_x17, r_x18, r_x19, r_x20, hR_p0, hR_q0⟩ h
set_option maxHeartbeats 4000000 in
set_option maxRecDepth 20000 in
theorem w_Lc_712 {Y : lB} {L : Nat} {xs : Nat → Int32} {ρ : Nat → Nat × Nat} {x : Nat} {sa : Nat × Nat × Nat} {N nn : Nat} {Ω : oB} (hF : yF Y L xs ρ x sa) (hΩ : yOk Y xs L x sa Ω) (hnn : nn < 1000) {res : Int} (hE : res = 1) {k712 : (Int → Int → Int → Int → Nat → Int → Int → Nat → Int → Int → Int → qM → qM → Nat → Option (Int))} (hk712 : ∀ (x2 : Int) (x4 : Int) (x5 : Int) (x7 : Int) (x8 : Nat) (x10 : Int) (x11 : Int) (x12 : Nat) (x17 : Int) (x18 : Int) (x19 : Int) (p0 q0 : qM) (c0 : Nat), in32 x2 → in32 x4 → in32 x5 → in32 x7 → gK (y8 Y) x8 = 1000 + nn → in32 x10 → in32 x11 → gK (y8 Y) x12 = 5003 → in32 x17 → in32 x18 → in32 x19 → qR (y7 Y) p0 → qR (y8 Y) q0 → k712 x2 x4 x5 x7 x8 x10 x11 x12 x17 x18 x19 p0 q0 c0 = some res → yN Y c0 712 [(0, .ref (ya Y)), (1, .ref x), (2, .int (iZ x2)), (4, .int (iZ x4)), (5, .int (iZ x5)), (7, .int (iZ x7)), (8, .ref x8), (10, .int (iZ x10)), (11, .int (iZ x11)), (12, .ref x12), (17, .int (iZ x17)), (18, .int (iZ x18)), (19, .int (iZ x19))] [] p0 q0)
    {x2 : Int} {x4 : Int} {x5 : Int} {x7 : Int} {x8 : Nat} {x10 : Int} {x11 : Int} {x12 : Nat} {x17 : Int} {x18 : Int} {x19 : Int} (r_x2 : in32 x2) (r_x4 : in32 x4) (r_x5 : in32 x5) (r_x7 : in32 x7) (k_x8 : gK (y8 Y) x8 = 1000 + nn) (r_x10 : in32 x10) (r_x11 : in32 x11) (k_x12 : gK (y8 Y) x12 = 5003) (r_x17 : in32 x17) (r_x18 : in32 x18) (r_x19 : in32 x19) {p0 q0 : qM} {c0 : Nat} (hR_p0 : qR (y7 Y) p0) (hR_q0 : qR (y8 Y) q0)
    (h : f_Lc_712 N (y7 Y) x Ω (gK (y8 Y)) nn k712 x2 x4 x5 x7 x8 x10 x11 x12 x17 x18 x19 p0 q0 c0 = some res) : yN Y c0 712 [(0, .ref (ya Y)), (1, .ref x), (2, .int (iZ x2)), (4, .int (iZ x4)), (5, .int (iZ x5)), (7, .int (iZ x7)), (8, .ref x8), (10, .int (iZ x10)), (11, .int (iZ x11)), (12, .ref x12), (17, .int (iZ x17)), (18, .int (iZ x18)), (19, .int (iZ x19))] [] p0 q0 := by
  unfold f_Lc_712 at h
  refine p_iload hF (pc := 712) dL_law_712 12 rfl ?_
  refine p_if_lt hF (pc := 714) r_x19 828 dL_law_714 (by decide) (fun t1 => ?_) (fun t1 => ?_)
  · have h := ite_t h t1
    refine p_iconst hF (pc := 828) dL_law_828 ?_
    refine p_istore hF (pc := 829) (ls' := [(19, .int (iZ 0)), (0, .ref (ya Y)), (1, .ref x), (2, .int (iZ x2)), (4, .int (iZ x4)), (5, .int (iZ x5)), (7, .int (iZ x7)), (8, .ref x8), (10, .int (iZ x10)), (11, .int (iZ x11)), (12, .ref x12), (17, .int (iZ x17)), (18, .int (iZ x18))]) dL_law_829 rfl rfl ?_
    refine p_sub (ls' := [(0, .ref (ya Y)), (1, .ref x), (2, .int (iZ x2)), (4, .int (iZ x4)), (5, .int (iZ x5)), (7, .int (iZ x7)), (8, .ref x8), (10, .int (iZ x10)), (11, .int (iZ x11)), (12, .ref x12), (18, .int (iZ x18)), (19, .int (iZ 0))]) [1, 2, 3, 4, 5, 6, 7, 8, 9, 10, 12, 0] rfl ?_
    exact w_Lc_L831 hF hΩ hnn hE  r_x2 r_x4 r_x5 r_x7 k_x8 r_x10 r_x11 k_x12 r_x18 (by decide) hR_p0 hR_q0 h
  · have h := ite_f h t1
    refine p_iload hF (pc := 717) dL_law_717 4 rfl ?_
    refine p_iconst hF (pc := 719) dL_law_719 ?_
    obtain ⟨v2, e_v2, r_v2, h⟩ := ckI_e h
    refine p_isub hF (pc := 720) dL_law_720 e_v2 ?_
    refine p_istore hF (pc := 721) (ls' := [(20, .int (iZ v2)), (0, .ref (ya Y)), (1, .ref x), (2, .int (iZ x2)), (4, .int (iZ x4)), (5, .int (iZ x5)), (7, .int (iZ x7)), (8, .ref x8), (10, .int (iZ x10)), (11, .int (iZ x11)), (12, .ref x12), (17, .int (iZ x17)), (18, .int (iZ x18)), (19, .int (iZ x19))]) dL_law_721 rfl rfl ?_
    refine p_sub (ls' := [(0, .ref (ya Y)), (1, .ref x), (2, .int (iZ x2)), (4, .int (iZ x4)), (5, .int (iZ x5)), (7, .int (iZ x7)), (8, .ref x8), (10, .int (iZ x10)), (11, .int (iZ x11)), (12, .ref x12), (17, .int (iZ x17)), (18, .int (iZ x18)), (19, .int (iZ x19)), (20, .int (iZ v2))]) [1, 2, 3, 4, 5, 6, 7, 8, 9, 10, 11, 12, 13, 0] rfl ?_
    exact w_Lc_L723 hF hΩ hnn hE hk712 r_x2 r_x4 r_x5 r_x7 k_x8 r_x10 r_x11 k_x12 r_x17 r_x18 r_x19 r_v2 hR_p0 hR_q0 h
set_option maxHeartbeats 4000000 in
set_option maxRecDepth 20000 in
theorem w_Lc_L712 {Y : lB} {L : Nat} {xs : Nat → Int32} {ρ : Nat → Nat × Nat} {x : Nat} {sa : Nat × Nat × Nat} {N nn : Nat} {Ω : oB} (hF : yF Y L xs ρ x sa) (hΩ : yOk Y xs L x sa Ω) (hnn : nn < 1000) {res : Int} (hE : res = 1) 
    {x2 : Int} {x4 : Int} {x5 : Int} {x7 : Int} {x8 : Nat} {x10 : Int} {x11 : Int} {x12 : Nat} {x17 : Int} {x18 : Int} {x19 : Int} (r_x2 : in32 x2) (r_x4 : in32 x4) (r_x5 : in32 x5) (r_x7 : in32 x7) (k_x8 : gK (y8 Y) x8 = 1000 + nn) (r_x10 : in32 x10) (r_x11 : in32 x11) (k_x12 : gK (y8 Y) x12 = 5003) (r_x17 : in32 x17) (r_x18 : in32 x18) (r_x19 : in32 x19) {p0 q0 : qM} {c0 : Nat} (hR_p0 : qR (y7 Y) p0) (hR_q0 : qR (y8 Y) q0)
    (h : f_Lc_L712 N (y7 Y) x Ω (gK (y8 Y)) nn  x2 x4 x5 x7 x8 x10 x11 x12 x17 x18 x19 p0 q0 c0 = some res) : yN Y c0 712 [(0, .ref (ya Y)), (1, .ref x), (2, .int (iZ x2)), (4, .int (iZ x4)), (5, .int (iZ x5)), (7, .int (iZ x7)), (8, .ref x8), (10, .int (iZ x10)), (11, .int (iZ x11)), (12, .ref x12), (17, .int (iZ x17)), (18, .int (iZ x18)), (19, .int (iZ x19))] [] p0 q0 := by
  unfold f_Lc_L712 at h
  exact qLoop_w (σ := Int × Int × Int × Int × Nat × Int × Int × Nat × Int × Int × Int × qM × qM × Nat) (P := fun z => in32 z.1 ∧ in32 z.2.1 ∧ in32 z.2.2.1 ∧ in32 z.2.2.2.1 ∧ gK (y8 Y) z.2.2.2.2.1 = 1000 + nn ∧ in32 z.2.2.2.2.2.1 ∧ in32 z.2.2.2.2.2.2.1 ∧ gK (y8 Y) z.2.2.2.2.2.2.2.1 = 5003 ∧ in32 z.2.2.2.2.2.2.2.2.1 ∧ in32 z.2.2.2.2.2.2.2.2.2.1 ∧ in32 z.2.2.2.2.2.2.2.2.2.2.1 ∧ qR (y7 Y) z.2.2.2.2.2.2.2.2.2.2.2.1 ∧ qR (y8 Y) z.2.2.2.2.2.2.2.2.2.2.2.2.1) (Q := fun z => yN Y z.2.2.2.2.2.2.2.2.2.2.2.2.2 712 [(0, .ref (ya Y)), (1, .ref x), (2, .int (iZ z.1)), (4, .int (iZ z.2.1)), (5, .int (iZ z.2.2.1)), (7, .int (iZ z.2.2.2.1)), (8, .ref z.2.2.2.2.1), (10, .int (iZ z.2.2.2.2.2.1)), (11, .int (iZ z.2.2.2.2.2.2.1)), (12, .ref z.2.2.2.2.2.2.2.1), (17, .int (iZ z.2.2.2.2.2.2.2.2.1)), (18, .int (iZ z.2.2.2.2.2.2.2.2.2.1)), (19, .int (iZ z.2.2.2.2.2.2.2.2.2.2.1))] [] z.2.2.2.2.2.2.2.2.2.2.2.1 z.2.2.2.2.2.2.2.2.2.2.2.2.1) (fun k hrec z hp hh => w_Lc_712 hF hΩ hnn hE (fun x2 x4 x5 x7 x8 x10 x11 x12 x17 x18 x19 p0 q0 c0 w0 w1 w2 w3 w4 w5 w6 w7 w8 w9 w10 w11 w12 hh => hrec (x2, x4, x5, x7, x8, x10, x11, x12, x17, x18, x19, p0, q0, c0) ⟨w0, w1, w2, w3, w4, w5, w6, w7, w8, w9, w10, w11, w12⟩ hh) hp.1 hp.2.1 hp.2.2.1 hp.2.2.2.1 hp.2.2.2.2.1 hp.2.2.2.2.2.1 hp.2.2.2.2.2.2.1 hp.2.2.2.2.2.2.2.1 hp.2.2.2.2.2.2.2.2.1 hp.2.2.2.2.2.2.2.2.2.1 hp.2.2.2.2.2.2.2.2.2.2.1 hp.2.2.2.2.2.2.2.2.2.2.2.1 hp.2.2.2.2.2.2.2.2.2.2.2.2 hh) N (x2, x4, x5, x7, x8, x10, x11, x12, x17, x18, x19, p0, q0, c0) ⟨r_x2, r_x4, r_x5, r_x7, k_x8, r_x10, r_x11, k_x12, r_x17, r_x18, r_x19, hR_p0, hR_q0⟩ h
set_option maxHeartbeats 4000000 in
set_option maxRecDepth 20000 in
theorem w_Lc_583 {Y : lB} {L : Nat} {xs : Nat → Int32} {ρ : Nat → Nat × Nat} {x : Nat} {sa : Nat × Nat × Nat} {N nn : Nat} {Ω : oB} (hF : yF Y L xs ρ x sa) (hΩ : yOk Y xs L x sa Ω) (hnn : nn < 1000) {res : Int} (hE : res = 1) {k529 : (Int → Int → Int → Int → Nat → Int → Int → Int → Nat → Int → qM → qM → Nat → Option (Int))} (hk529 : ∀ (x2 : Int) (x4 : Int) (x5 : Int) (x7 : Int) (x8 : Nat) (x9 : Int) (x10 : Int) (x11 : Int) (x12 : Nat) (x16 : Int) (p0 q0 : qM) (c0 : Nat), in32 x2 → in32 x4 → in32 x5 → in32 x7 → gK (y8 Y) x8 = 1000 + nn → in32 x9 → in32 x10 → in32 x11 → gK (y8 Y) x12 = 5003 → in32 x16 → qR (y7 Y) p0 → qR (y8 Y) q0 → k529 x2 x4 x5 x7 x8 x9 x10 x11 x12 x16 p0 q0 c0 = some res → yN Y c0 529 [(0, .ref (ya Y)), (1, .ref x), (2, .int (iZ x2)), (4, .int (iZ x4)), (5, .int (iZ x5)), (7, .int (iZ x7)), (8, .ref x8), (9, .int (iZ x9)), (10, .int (iZ x10)), (11, .int (iZ x11)), (12, .ref x12), (16, .int (iZ x16))] [] p0 q0) {k583 : (Int → Int → Int → Int → Nat → Int → Int → Int → Nat → Int → Int → qM → qM → Nat → Option (Int))} (hk583 : ∀ (x2 : Int) (x4 : Int) (x5 : Int) (x7 : Int) (x8 : Nat) (x9 : Int) (x10 : Int) (x11 : Int) (x12 : Nat) (x16 : Int) (x18 : Int) (p0 q0 : qM) (c0 : Nat), in32 x2 → in32 x4 → in32 x5 → in32 x7 → gK (y8 Y) x8 = 1000 + nn → in32 x9 → in32 x10 → in32 x11 → gK (y8 Y) x12 = 5003 → in32 x16 → in32 x18 → qR (y7 Y) p0 → qR (y8 Y) q0 → k583 x2 x4 x5 x7 x8 x9 x10 x11 x12 x16 x18 p0 q0 c0 = some res → yN Y c0 583 [(0, .ref (ya Y)), (1, .ref x), (2, .int (iZ x2)), (4, .int (iZ x4)), (5, .int (iZ x5)), (7, .int (iZ x7)), (8, .ref x8), (9, .int (iZ x9)), (10, .int (iZ x10)), (11, .int (iZ x11)), (12, .ref x12), (16, .int (iZ x16)), (18, .int (iZ x18))] [] p0 q0)
    {x2 : Int} {x4 : Int} {x5 : Int} {x7 : Int} {x8 : Nat} {x9 : Int} {x10 : Int} {x11 : Int} {x12 : Nat} {x16 : Int} {x18 : Int} (r_x2 : in32 x2) (r_x4 : in32 x4) (r_x5 : in32 x5) (r_x7 : in32 x7) (k_x8 : gK (y8 Y) x8 = 1000 + nn) (r_x9 : in32 x9) (r_x10 : in32 x10) (r_x11 : in32 x11) (k_x12 : gK (y8 Y) x12 = 5003) (r_x16 : in32 x16) (r_x18 : in32 x18) {p0 q0 : qM} {c0 : Nat} (hR_p0 : qR (y7 Y) p0) (hR_q0 : qR (y8 Y) q0)
    (h : f_Lc_583 N (y7 Y) x Ω (gK (y8 Y)) nn k529 k583 x2 x4 x5 x7 x8 x9 x10 x11 x12 x16 x18 p0 q0 c0 = some res) : yN Y c0 583 [(0, .ref (ya Y)), (1, .ref x), (2, .int (iZ x2)), (4, .int (iZ x4)), (5, .int (iZ x5)), (7, .int (iZ x7)), (8, .ref x8), (9, .int (iZ x9)), (10, .int (iZ x10)), (11, .int (iZ x11)), (12, .ref x12), (16, .int (iZ x16)), (18, .int (iZ x18))] [] p0 q0 := by
  unfold f_Lc_583 at h
  refine p_iload hF (pc := 583) dL_law_583 12 rfl ?_
  refine p_iconst hF (pc := 585) dL_law_585 ?_
  refine p_icmp_ge hF (pc := 586) r_x18 (by decide) 623 dL_law_586 (by decide) (fun t1 => ?_) (fun t1 => ?_)
  · have h := ite_f h t1
    obtain ⟨v2, e_v2, r_v2, h⟩ := ckI_e h
    refine p_iinc hF (pc := 623) (ls' := [(16, .int (iZ v2)), (0, .ref (ya Y)), (1, .ref x), (2, .int (iZ x2)), (4, .int (iZ x4)), (5, .int (iZ x5)), (7, .int (iZ x7)), (8, .ref x8), (9, .int (iZ x9)), (10, .int (iZ x10)), (11, .int (iZ x11)), (12, .ref x12), (18, .int (iZ x18))]) dL_law_623 11 rfl e_v2 rfl rfl ?_
    refine p_goto hF (pc := 626) 529 dL_law_626 (by decide) ?_
    refine p_sub (ls' := [(0, .ref (ya Y)), (1, .ref x), (2, .int (iZ x2)), (4, .int (iZ x4)), (5, .int (iZ x5)), (7, .int (iZ x7)), (8, .ref x8), (9, .int (iZ x9)), (10, .int (iZ x10)), (11, .int (iZ x11)), (12, .ref x12), (16, .int (iZ v2))]) [1, 2, 3, 4, 5, 6, 7, 8, 9, 10, 11, 0] rfl ?_
    exact hk529 x2 x4 x5 x7 x8 x9 x10 x11 x12 v2 p0 q0 c0 r_x2 r_x4 r_x5 r_x7 k_x8 r_x9 r_x10 r_x11 k_x12 r_v2 hR_p0 hR_q0 h
  · have h := ite_t h t1
    refine p_aload_n hF (pc := 589) dL_law_589 1 rfl rfl ?_
    refine p_iload hF (pc := 590) dL_law_590 5 rfl ?_
    refine p_iload hF (pc := 592) dL_law_592 11 rfl ?_
    obtain ⟨v3, e_v3, r_v3, h⟩ := ckI_e h
    refine p_iadd hF (pc := 594) dL_law_594 e_v3 ?_
    refine p_iload hF (pc := 595) dL_law_595 9 rfl ?_
    refine p_iconst hF (pc := 597) dL_law_597 ?_
    refine p_iload hF (pc := 598) dL_law_598 12 rfl ?_
    obtain ⟨v4, e_v4, r_v4, h⟩ := ckI_e h
    refine p_iadd hF (pc := 600) dL_law_600 e_v4 ?_
    obtain ⟨v6, p5, e_p5, h⟩ := kb2_e h
    refine p_call7 hF (pc := 601) [.int (iZ v3), .int (iZ x11), .int (iZ v4)] [.int (iZ v4), .int (iZ x11), .int (iZ v3)] 3 dL_law_601 (goodIn_l gL_law_X7_share) rfl dd_X7_share ⟨rfl, rfl⟩ rfl rfl rfl (k_X7_share (yl Y) hF.T7 hF.k7 r_v3 r_x11 r_v4 e_p5) (fun r_v6 hR_p5 => ?_)
    refine p_aload hF (pc := 604) dL_law_604 10 rfl ?_
    refine p_iload hF (pc := 606) dL_law_606 12 rfl ?_
    obtain ⟨o7, e_o7, b_o7, k_o7, h⟩ := rdQ_e h
    refine p_aaldR hF (pc := 608) 3 dL_law_608 k_x12 (by decide) b_o7 e_o7 ?_
    refine p_iload hF (pc := 609) dL_law_609 11 rfl ?_
    obtain ⟨v8, e_v8, b_v8, h⟩ := rdA_e h
    have r_v8 : in32 v8 := by rw [e_v8]; exact hR_q0.a (n := nn) _ k_o7 hnn
    refine p_iald hF (pc := 611) nn dL_law_611 k_o7 hnn b_v8 e_v8 ?_
    refine p_icmp_eq hF (pc := 612) r_v6 r_v8 617 dL_law_612 (by decide) (fun t9 => ?_) (fun t9 => ?_)
    · have h := ite_t h t9
      obtain ⟨v10, e_v10, r_v10, h⟩ := ckI_e h
      refine p_iinc hF (pc := 617) (ls' := [(18, .int (iZ v10)), (0, .ref (ya Y)), (1, .ref x), (2, .int (iZ x2)), (4, .int (iZ x4)), (5, .int (iZ x5)), (7, .int (iZ x7)), (8, .ref x8), (9, .int (iZ x9)), (10, .int (iZ x10)), (11, .int (iZ x11)), (12, .ref x12), (16, .int (iZ x16))]) dL_law_617 12 rfl e_v10 rfl rfl ?_
      refine p_goto hF (pc := 620) 583 dL_law_620 (by decide) ?_
      refine p_sub (ls' := [(0, .ref (ya Y)), (1, .ref x), (2, .int (iZ x2)), (4, .int (iZ x4)), (5, .int (iZ x5)), (7, .int (iZ x7)), (8, .ref x8), (9, .int (iZ x9)), (10, .int (iZ x10)), (11, .int (iZ x11)), (12, .ref x12), (16, .int (iZ x16)), (18, .int (iZ v10))]) [1, 2, 3, 4, 5, 6, 7, 8, 9, 10, 11, 12, 0] rfl ?_
      exact hk583 x2 x4 x5 x7 x8 x9 x10 x11 x12 x16 v10 p5 q0 c0 r_x2 r_x4 r_x5 r_x7 k_x8 r_x9 r_x10 r_x11 k_x12 r_x16 r_v10 hR_p5 hR_q0 h
    · have h := ite_f h t9
      cases h
set_option maxHeartbeats 4000000 in
set_option maxRecDepth 20000 in
theorem w_Lc_L583 {Y : lB} {L : Nat} {xs : Nat → Int32} {ρ : Nat → Nat × Nat} {x : Nat} {sa : Nat × Nat × Nat} {N nn : Nat} {Ω : oB} (hF : yF Y L xs ρ x sa) (hΩ : yOk Y xs L x sa Ω) (hnn : nn < 1000) {res : Int} (hE : res = 1) {k529 : (Int → Int → Int → Int → Nat → Int → Int → Int → Nat → Int → qM → qM → Nat → Option (Int))} (hk529 : ∀ (x2 : Int) (x4 : Int) (x5 : Int) (x7 : Int) (x8 : Nat) (x9 : Int) (x10 : Int) (x11 : Int) (x12 : Nat) (x16 : Int) (p0 q0 : qM) (c0 : Nat), in32 x2 → in32 x4 → in32 x5 → in32 x7 → gK (y8 Y) x8 = 1000 + nn → in32 x9 → in32 x10 → in32 x11 → gK (y8 Y) x12 = 5003 → in32 x16 → qR (y7 Y) p0 → qR (y8 Y) q0 → k529 x2 x4 x5 x7 x8 x9 x10 x11 x12 x16 p0 q0 c0 = some res → yN Y c0 529 [(0, .ref (ya Y)), (1, .ref x), (2, .int (iZ x2)), (4, .int (iZ x4)), (5, .int (iZ x5)), (7, .int (iZ x7)), (8, .ref x8), (9, .int (iZ x9)), (10, .int (iZ x10)), (11, .int (iZ x11)), (12, .ref x12), (16, .int (iZ x16))] [] p0 q0)
    {x2 : Int} {x4 : Int} {x5 : Int} {x7 : Int} {x8 : Nat} {x9 : Int} {x10 : Int} {x11 : Int} {x12 : Nat} {x16 : Int} {x18 : Int} (r_x2 : in32 x2) (r_x4 : in32 x4) (r_x5 : in32 x5) (r_x7 : in32 x7) (k_x8 : gK (y8 Y) x8 = 1000 + nn) (r_x9 : in32 x9) (r_x10 : in32 x10) (r_x11 : in32 x11) (k_x12 : gK (y8 Y) x12 = 5003) (r_x16 : in32 x16) (r_x18 : in32 x18) {p0 q0 : qM} {c0 : Nat} (hR_p0 : qR (y7 Y) p0) (hR_q0 : qR (y8 Y) q0)
    (h : f_Lc_L583 N (y7 Y) x Ω (gK (y8 Y)) nn k529 x2 x4 x5 x7 x8 x9 x10 x11 x12 x16 x18 p0 q0 c0 = some res) : yN Y c0 583 [(0, .ref (ya Y)), (1, .ref x), (2, .int (iZ x2)), (4, .int (iZ x4)), (5, .int (iZ x5)), (7, .int (iZ x7)), (8, .ref x8), (9, .int (iZ x9)), (10, .int (iZ x10)), (11, .int (iZ x11)), (12, .ref x12), (16, .int (iZ x16)), (18, .int (iZ x18))] [] p0 q0 := by
  unfold f_Lc_L583 at h
  exact qLoop_w (σ := Int × Int × Int × Int × Nat × Int × Int × Int × Nat × Int × Int × qM × qM × Nat) (P := fun z => in32 z.1 ∧ in32 z.2.1 ∧ in32 z.2.2.1 ∧ in32 z.2.2.2.1 ∧ gK (y8 Y) z.2.2.2.2.1 = 1000 + nn ∧ in32 z.2.2.2.2.2.1 ∧ in32 z.2.2.2.2.2.2.1 ∧ in32 z.2.2.2.2.2.2.2.1 ∧ gK (y8 Y) z.2.2.2.2.2.2.2.2.1 = 5003 ∧ in32 z.2.2.2.2.2.2.2.2.2.1 ∧ in32 z.2.2.2.2.2.2.2.2.2.2.1 ∧ qR (y7 Y) z.2.2.2.2.2.2.2.2.2.2.2.1 ∧ qR (y8 Y) z.2.2.2.2.2.2.2.2.2.2.2.2.1) (Q := fun z => yN Y z.2.2.2.2.2.2.2.2.2.2.2.2.2 583 [(0, .ref (ya Y)), (1, .ref x), (2, .int (iZ z.1)), (4, .int (iZ z.2.1)), (5, .int (iZ z.2.2.1)), (7, .int (iZ z.2.2.2.1)), (8, .ref z.2.2.2.2.1), (9, .int (iZ z.2.2.2.2.2.1)), (10, .int (iZ z.2.2.2.2.2.2.1)), (11, .int (iZ z.2.2.2.2.2.2.2.1)), (12, .ref z.2.2.2.2.2.2.2.2.1), (16, .int (iZ z.2.2.2.2.2.2.2.2.2.1)), (18, .int (iZ z.2.2.2.2.2.2.2.2.2.2.1))] [] z.2.2.2.2.2.2.2.2.2.2.2.1 z.2.2.2.2.2.2.2.2.2.2.2.2.1) (fun k hrec z hp hh => w_Lc_583 hF hΩ hnn hE hk529 (fun x2 x4 x5 x7 x8 x9 x10 x11 x12 x16 x18 p0 q0 c0 w0 w1 w2 w3 w4 w5 w6 w7 w8 w9 w10 w11 w12 hh => hrec (x2, x4, x5, x7, x8, x9, x10, x11, x12, x16, x18, p0, q0, c0) ⟨w0, w1, w2, w3, w4, w5, w6, w7, w8, w9, w10, w11, w12⟩ hh) hp.1 hp.2.1 hp.2.2.1 hp.2.2.2.1 hp.2.2.2.2.1 hp.2.2.2.2.2.1 hp.2.2.2.2.2.2.1 hp.2.2.2.2.2.2.2.1 hp.2.2.2.2.2.2.2.2.1 hp.2.2.2.2.2.2.2.2.2.1 hp.2.2.2.2.2.2.2.2.2.2.1 hp.2.2.2.2.2.2.2.2.2.2.2.1 hp.2.2.2.2.2.2.2.2.2.2.2.2 hh) N (x2, x4, x5, x7, x8, x9, x10, x11, x12, x16, x18, p0, q0, c0) ⟨r_x2, r_x4, r_x5, r_x7, k_x8, r_x9, r_x10, r_x11, k_x12, r_x16, r_x18, hR_p0, hR_q0⟩ h
set_option maxHeartbeats 4000000 in
set_option maxRecDepth 20000 in
theorem w_Lc_529 {Y : lB} {L : Nat} {xs : Nat → Int32} {ρ : Nat → Nat × Nat} {x : Nat} {sa : Nat × Nat × Nat} {N nn : Nat} {Ω : oB} (hF : yF Y L xs ρ x sa) (hΩ : yOk Y xs L x sa Ω) (hnn : nn < 1000) {res : Int} (hE : res = 1) {k529 : (Int → Int → Int → Int → Nat → Int → Int → Int → Nat → Int → qM → qM → Nat → Option (Int))} (hk529 : ∀ (x2 : Int) (x4 : Int) (x5 : Int) (x7 : Int) (x8 : Nat) (x9 : Int) (x10 : Int) (x11 : Int) (x12 : Nat) (x16 : Int) (p0 q0 : qM) (c0 : Nat), in32 x2 → in32 x4 → in32 x5 → in32 x7 → gK (y8 Y) x8 = 1000 + nn → in32 x9 → in32 x10 → in32 x11 → gK (y8 Y) x12 = 5003 → in32 x16 → qR (y7 Y) p0 → qR (y8 Y) q0 → k529 x2 x4 x5 x7 x8 x9 x10 x11 x12 x16 p0 q0 c0 = some res → yN Y c0 529 [(0, .ref (ya Y)), (1, .ref x), (2, .int (iZ x2)), (4, .int (iZ x4)), (5, .int (iZ x5)), (7, .int (iZ x7)), (8, .ref x8), (9, .int (iZ x9)), (10, .int (iZ x10)), (11, .int (iZ x11)), (12, .ref x12), (16, .int (iZ x16))] [] p0 q0)
    {x2 : Int} {x4 : Int} {x5 : Int} {x7 : Int} {x8 : Nat} {x9 : Int} {x10 : Int} {x11 : Int} {x12 : Nat} {x16 : Int} (r_x2 : in32 x2) (r_x4 : in32 x4) (r_x5 : in32 x5) (r_x7 : in32 x7) (k_x8 : gK (y8 Y) x8 = 1000 + nn) (r_x9 : in32 x9) (r_x10 : in32 x10) (r_x11 : in32 x11) (k_x12 : gK (y8 Y) x12 = 5003) (r_x16 : in32 x16) {p0 q0 : qM} {c0 : Nat} (hR_p0 : qR (y7 Y) p0) (hR_q0 : qR (y8 Y) q0)
    (h : f_Lc_529 N (y7 Y) x Ω (gK (y8 Y)) nn k529 x2 x4 x5 x7 x8 x9 x10 x11 x12 x16 p0 q0 c0 = some res) : yN Y c0 529 [(0, .ref (ya Y)), (1, .ref x), (2, .int (iZ x2)), (4, .int (iZ x4)), (5, .int (iZ x5)), (7, .int (iZ x7)), (8, .ref x8), (9, .int (iZ x9)), (10, .int (iZ x10)), (11, .int (iZ x11)), (12, .ref x12), (16, .int (iZ x16))] [] p0 q0 := by
  unfold f_Lc_529 at h
  refine p_iload hF (pc := 529) dL_law_529 11 rfl ?_
  refine p_iload hF (pc := 531) dL_law_531 4 rfl ?_
  refine p_icmp_ge hF (pc := 533) r_x16 r_x5 629 dL_law_533 (by decide) (fun t1 => ?_) (fun t1 => ?_)
  · have h := ite_f h t1
    refine p_aload_n hF (pc := 629) dL_law_629 1 rfl rfl ?_
    refine p_iload hF (pc := 630) dL_law_630 5 rfl ?_
    refine p_iload hF (pc := 632) dL_law_632 7 rfl ?_
    refine p_iconst hF (pc := 634) dL_law_634 ?_
    obtain ⟨v2, e_v2, r_v2, h⟩ := ckI_e h
    refine p_iadd hF (pc := 635) dL_law_635 e_v2 ?_
    refine p_iconst hF (pc := 636) dL_law_636 ?_
    obtain ⟨v4, p3, e_p3, h⟩ := kb2_e h
    refine p_call7 hF (pc := 637) [.int (iZ x7), .int (iZ v2), .int (iZ 0)] [.int (iZ 0), .int (iZ v2), .int (iZ x7)] 3 dL_law_637 (goodIn_l gL_law_X7_share) rfl dd_X7_share ⟨rfl, rfl⟩ rfl rfl rfl (k_X7_share (yl Y) hF.T7 hF.k7 r_x7 r_v2 (show in32 0 by decide) e_p3) (fun r_v4 hR_p3 => ?_)
    refine p_iconst hF (pc := 640) dL_law_640 ?_
    refine p_icmp_ne hF (pc := 641) r_v4 (by decide) 656 dL_law_641 (by decide) (fun t5 => ?_) (fun t5 => ?_)
    · have h := ite_f h t5
      cases h
    · have h := ite_t h t5
      refine p_aload_n hF (pc := 644) dL_law_644 1 rfl rfl ?_
      refine p_iload hF (pc := 645) dL_law_645 5 rfl ?_
      refine p_iconst hF (pc := 647) dL_law_647 ?_
      refine p_iconst hF (pc := 648) dL_law_648 ?_
      obtain ⟨v7, p6, e_p6, h⟩ := kb2_e h
      refine p_call7 hF (pc := 649) [.int (iZ x7), .int (iZ 0), .int (iZ 0)] [.int (iZ 0), .int (iZ 0), .int (iZ x7)] 3 dL_law_649 (goodIn_l gL_law_X7_share) rfl dd_X7_share ⟨rfl, rfl⟩ rfl rfl rfl (k_X7_share (yl Y) hF.T7 hF.k7 r_x7 (show in32 0 by decide) (show in32 0 by decide) e_p6) (fun r_v7 hR_p6 => ?_)
      refine p_iconst hF (pc := 652) dL_law_652 ?_
      refine p_icmp_eq hF (pc := 653) r_v7 (by decide) 658 dL_law_653 (by decide) (fun t8 => ?_) (fun t8 => ?_)
      · have h := ite_t h t8
        refine p_iload hF (pc := 658) dL_law_658 9 rfl ?_
        refine p_sipush hF (pc := 660) dL_law_660 (by decide) ?_
        obtain ⟨v9, e_v9, h⟩ := kp_e h
        have r_v9 : in32 v9 := by rw [e_v9]; exact in32_min r_x11 (by decide)
        refine p_min hF (pc := 663) r_x11 (by decide) dL_law_663 rfl e_v9 ?_
        refine p_istore hF (pc := 666) (ls' := [(16, .int (iZ v9)), (0, .ref (ya Y)), (1, .ref x), (2, .int (iZ x2)), (4, .int (iZ x4)), (5, .int (iZ x5)), (7, .int (iZ x7)), (8, .ref x8), (9, .int (iZ x9)), (10, .int (iZ x10)), (11, .int (iZ x11)), (12, .ref x12)]) dL_law_666 rfl rfl ?_
        refine p_iload hF (pc := 668) dL_law_668 0 rfl ?_
        refine p_iload hF (pc := 670) dL_law_670 10 rfl ?_
        refine p_icmp_ge hF (pc := 672) r_v9 r_x11 677 dL_law_672 (by decide) (fun t10 => ?_) (fun t10 => ?_)
        · have h := ite_f h t10
          refine p_aload_n hF (pc := 677) dL_law_677 2 rfl rfl ?_
          refine p_bipush hF (pc := 678) dL_law_678 (by decide) ?_
          refine p_iconst hF (pc := 680) dL_law_680 ?_
          refine p_iload hF (pc := 681) dL_law_681 4 rfl ?_
          obtain ⟨v11, e_v11, r_v11, h⟩ := ckI_e h
          refine p_isub hF (pc := 683) dL_law_683 e_v11 ?_
          refine p_bipush hF (pc := 684) dL_law_684 (by decide) ?_
          refine p_iload hF (pc := 686) dL_law_686 10 rfl ?_
          refine p_iconst hF (pc := 688) dL_law_688 ?_
          obtain ⟨v13, p12, e_p12, h⟩ := kb2_e h
          refine p_call7 hF (pc := 689) [.int (iZ 9), .int (iZ v11), .int (iZ 100), .int (iZ x11), .int (iZ 0)] [.int (iZ 0), .int (iZ x11), .int (iZ 100), .int (iZ v11), .int (iZ 9)] 5 dL_law_689 (goodIn_l gL_law_X7_order) rfl dd_X7_order ⟨rfl, rfl⟩ rfl rfl rfl (k_X7_order (yl Y) hF.T7 hF.k7 (show in32 9 by decide) r_v11 (show in32 100 by decide) r_x11 (show in32 0 by decide) e_p12) (fun r_v13 hR_p12 => ?_)
          refine p_istore hF (pc := 692) (ls' := [(17, .int (iZ v13)), (16, .int (iZ v9)), (0, .ref (ya Y)), (1, .ref x), (2, .int (iZ x2)), (4, .int (iZ x4)), (5, .int (iZ x5)), (7, .int (iZ x7)), (8, .ref x8), (9, .int (iZ x9)), (10, .int (iZ x10)), (11, .int (iZ x11)), (12, .ref x12)]) dL_law_692 rfl rfl ?_
          refine p_iload hF (pc := 694) dL_law_694 0 rfl ?_
          refine p_iload hF (pc := 696) dL_law_696 7 rfl ?_
          refine p_iload hF (pc := 698) dL_law_698 6 rfl ?_
          obtain ⟨v14, e_v14, r_v14, h⟩ := ckI_e h
          refine p_iadd hF (pc := 700) dL_law_700 e_v14 ?_
          refine p_icmp_eq hF (pc := 701) r_v13 r_v14 706 dL_law_701 (by decide) (fun t15 => ?_) (fun t15 => ?_)
          · have h := ite_t h t15
            refine p_iconst hF (pc := 706) dL_law_706 ?_
            refine p_istore hF (pc := 707) (ls' := [(18, .int (iZ 0)), (17, .int (iZ v13)), (16, .int (iZ v9)), (0, .ref (ya Y)), (1, .ref x), (2, .int (iZ x2)), (4, .int (iZ x4)), (5, .int (iZ x5)), (7, .int (iZ x7)), (8, .ref x8), (9, .int (iZ x9)), (10, .int (iZ x10)), (11, .int (iZ x11)), (12, .ref x12)]) dL_law_707 rfl rfl ?_
            refine p_iconst hF (pc := 709) dL_law_709 ?_
            refine p_istore hF (pc := 710) (ls' := [(19, .int (iZ 2)), (18, .int (iZ 0)), (17, .int (iZ v13)), (16, .int (iZ v9)), (0, .ref (ya Y)), (1, .ref x), (2, .int (iZ x2)), (4, .int (iZ x4)), (5, .int (iZ x5)), (7, .int (iZ x7)), (8, .ref x8), (9, .int (iZ x9)), (10, .int (iZ x10)), (11, .int (iZ x11)), (12, .ref x12)]) dL_law_710 rfl rfl ?_
            refine p_sub (ls' := [(0, .ref (ya Y)), (1, .ref x), (2, .int (iZ x2)), (4, .int (iZ x4)), (5, .int (iZ x5)), (7, .int (iZ x7)), (8, .ref x8), (10, .int (iZ x10)), (11, .int (iZ x11)), (12, .ref x12), (17, .int (iZ v13)), (18, .int (iZ 0)), (19, .int (iZ 2))]) [4, 5, 6, 7, 8, 9, 10, 12, 13, 14, 2, 1, 0] rfl ?_
            exact w_Lc_L712 hF hΩ hnn hE  r_x2 r_x4 r_x5 r_x7 k_x8 r_x10 r_x11 k_x12 r_v13 (by decide) (by decide) hR_p12 hR_q0 h
          · have h := ite_f h t15
            cases h
        · have h := ite_t h t10
          refine p_iconst hF (pc := 675) dL_law_675 ?_
          exact p_ret hF (pc := 676) dL_law_676
      · have h := ite_f h t8
        cases h
  · have h := ite_t h t1
    refine p_aload hF (pc := 536) dL_law_536 10 rfl ?_
    refine p_iconst hF (pc := 538) dL_law_538 ?_
    obtain ⟨o16, e_o16, b_o16, k_o16, h⟩ := rdQ_e h
    refine p_aaldR hF (pc := 539) 3 dL_law_539 k_x12 (by decide) b_o16 e_o16 ?_
    refine p_iload hF (pc := 540) dL_law_540 11 rfl ?_
    obtain ⟨v17, e_v17, b_v17, h⟩ := rdA_e h
    have r_v17 : in32 v17 := by rw [e_v17]; exact hR_q0.a (n := nn) _ k_o16 hnn
    refine p_iald hF (pc := 542) nn dL_law_542 k_o16 hnn b_v17 e_v17 ?_
    refine p_aload hF (pc := 543) dL_law_543 10 rfl ?_
    refine p_iconst hF (pc := 545) dL_law_545 ?_
    obtain ⟨o18, e_o18, b_o18, k_o18, h⟩ := rdQ_e h
    refine p_aaldR hF (pc := 546) 3 dL_law_546 k_x12 (by decide) b_o18 e_o18 ?_
    refine p_iload hF (pc := 547) dL_law_547 11 rfl ?_
    obtain ⟨v19, e_v19, b_v19, h⟩ := rdA_e h
    have r_v19 : in32 v19 := by rw [e_v19]; exact hR_q0.a (n := nn) _ k_o18 hnn
    refine p_iald hF (pc := 549) nn dL_law_549 k_o18 hnn b_v19 e_v19 ?_
    obtain ⟨v20, e_v20, r_v20, h⟩ := ckI_e h
    refine p_iadd hF (pc := 550) dL_law_550 e_v20 ?_
    refine p_aload hF (pc := 551) dL_law_551 10 rfl ?_
    refine p_iconst hF (pc := 553) dL_law_553 ?_
    obtain ⟨o21, e_o21, b_o21, k_o21, h⟩ := rdQ_e h
    refine p_aaldR hF (pc := 554) 3 dL_law_554 k_x12 (by decide) b_o21 e_o21 ?_
    refine p_iload hF (pc := 555) dL_law_555 11 rfl ?_
    obtain ⟨v22, e_v22, b_v22, h⟩ := rdA_e h
    have r_v22 : in32 v22 := by rw [e_v22]; exact hR_q0.a (n := nn) _ k_o21 hnn
    refine p_iald hF (pc := 557) nn dL_law_557 k_o21 hnn b_v22 e_v22 ?_
    obtain ⟨v23, e_v23, r_v23, h⟩ := ckI_e h
    refine p_iadd hF (pc := 558) dL_law_558 e_v23 ?_
    refine p_istore hF (pc := 559) (ls' := [(17, .int (iZ v23)), (0, .ref (ya Y)), (1, .ref x), (2, .int (iZ x2)), (4, .int (iZ x4)), (5, .int (iZ x5)), (7, .int (iZ x7)), (8, .ref x8), (9, .int (iZ x9)), (10, .int (iZ x10)), (11, .int (iZ x11)), (12, .ref x12), (16, .int (iZ x16))]) dL_law_559 rfl rfl ?_
    refine p_aload_n hF (pc := 561) dL_law_561 2 rfl rfl ?_
    refine p_iload hF (pc := 562) dL_law_562 6 rfl ?_
    refine p_iload hF (pc := 564) dL_law_564 12 rfl ?_
    obtain ⟨v24, e_v24, r_v24, h⟩ := ckI_e h
    refine p_iadd hF (pc := 566) dL_law_566 e_v24 ?_
    refine p_iload hF (pc := 567) dL_law_567 10 rfl ?_
    refine p_iconst hF (pc := 569) dL_law_569 ?_
    obtain ⟨v26, p25, e_p25, h⟩ := kb2_e h
    refine p_call7 hF (pc := 570) [.int (iZ v24), .int (iZ x11), .int (iZ 0)] [.int (iZ 0), .int (iZ x11), .int (iZ v24)] 3 dL_law_570 (goodIn_l gL_law_X7_share) rfl dd_X7_share ⟨rfl, rfl⟩ rfl rfl rfl (k_X7_share (yl Y) hF.T7 hF.k7 r_v24 r_x11 (show in32 0 by decide) e_p25) (fun r_v26 hR_p25 => ?_)
    refine p_iload hF (pc := 573) dL_law_573 0 rfl ?_
    refine p_icmp_eq hF (pc := 575) r_v26 r_v23 580 dL_law_575 (by decide) (fun t27 => ?_) (fun t27 => ?_)
    · have h := ite_t h t27
      refine p_iconst hF (pc := 580) dL_law_580 ?_
      refine p_istore hF (pc := 581) (ls' := [(18, .int (iZ 0)), (17, .int (iZ v23)), (0, .ref (ya Y)), (1, .ref x), (2, .int (iZ x2)), (4, .int (iZ x4)), (5, .int (iZ x5)), (7, .int (iZ x7)), (8, .ref x8), (9, .int (iZ x9)), (10, .int (iZ x10)), (11, .int (iZ x11)), (12, .ref x12), (16, .int (iZ x16))]) dL_law_581 rfl rfl ?_
      refine p_sub (ls' := [(0, .ref (ya Y)), (1, .ref x), (2, .int (iZ x2)), (4, .int (iZ x4)), (5, .int (iZ x5)), (7, .int (iZ x7)), (8, .ref x8), (9, .int (iZ x9)), (10, .int (iZ x10)), (11, .int (iZ x11)), (12, .ref x12), (16, .int (iZ x16)), (18, .int (iZ 0))]) [2, 3, 4, 5, 6, 7, 8, 9, 10, 11, 12, 13, 0] rfl ?_
      exact w_Lc_L583 hF hΩ hnn hE hk529 r_x2 r_x4 r_x5 r_x7 k_x8 r_x9 r_x10 r_x11 k_x12 r_x16 (by decide) hR_p25 hR_q0 h
    · have h := ite_f h t27
      cases h
set_option maxHeartbeats 4000000 in
set_option maxRecDepth 20000 in
theorem w_Lc_L529 {Y : lB} {L : Nat} {xs : Nat → Int32} {ρ : Nat → Nat × Nat} {x : Nat} {sa : Nat × Nat × Nat} {N nn : Nat} {Ω : oB} (hF : yF Y L xs ρ x sa) (hΩ : yOk Y xs L x sa Ω) (hnn : nn < 1000) {res : Int} (hE : res = 1) 
    {x2 : Int} {x4 : Int} {x5 : Int} {x7 : Int} {x8 : Nat} {x9 : Int} {x10 : Int} {x11 : Int} {x12 : Nat} {x16 : Int} (r_x2 : in32 x2) (r_x4 : in32 x4) (r_x5 : in32 x5) (r_x7 : in32 x7) (k_x8 : gK (y8 Y) x8 = 1000 + nn) (r_x9 : in32 x9) (r_x10 : in32 x10) (r_x11 : in32 x11) (k_x12 : gK (y8 Y) x12 = 5003) (r_x16 : in32 x16) {p0 q0 : qM} {c0 : Nat} (hR_p0 : qR (y7 Y) p0) (hR_q0 : qR (y8 Y) q0)
    (h : f_Lc_L529 N (y7 Y) x Ω (gK (y8 Y)) nn  x2 x4 x5 x7 x8 x9 x10 x11 x12 x16 p0 q0 c0 = some res) : yN Y c0 529 [(0, .ref (ya Y)), (1, .ref x), (2, .int (iZ x2)), (4, .int (iZ x4)), (5, .int (iZ x5)), (7, .int (iZ x7)), (8, .ref x8), (9, .int (iZ x9)), (10, .int (iZ x10)), (11, .int (iZ x11)), (12, .ref x12), (16, .int (iZ x16))] [] p0 q0 := by
  unfold f_Lc_L529 at h
  exact qLoop_w (σ := Int × Int × Int × Int × Nat × Int × Int × Int × Nat × Int × qM × qM × Nat) (P := fun z => in32 z.1 ∧ in32 z.2.1 ∧ in32 z.2.2.1 ∧ in32 z.2.2.2.1 ∧ gK (y8 Y) z.2.2.2.2.1 = 1000 + nn ∧ in32 z.2.2.2.2.2.1 ∧ in32 z.2.2.2.2.2.2.1 ∧ in32 z.2.2.2.2.2.2.2.1 ∧ gK (y8 Y) z.2.2.2.2.2.2.2.2.1 = 5003 ∧ in32 z.2.2.2.2.2.2.2.2.2.1 ∧ qR (y7 Y) z.2.2.2.2.2.2.2.2.2.2.1 ∧ qR (y8 Y) z.2.2.2.2.2.2.2.2.2.2.2.1) (Q := fun z => yN Y z.2.2.2.2.2.2.2.2.2.2.2.2 529 [(0, .ref (ya Y)), (1, .ref x), (2, .int (iZ z.1)), (4, .int (iZ z.2.1)), (5, .int (iZ z.2.2.1)), (7, .int (iZ z.2.2.2.1)), (8, .ref z.2.2.2.2.1), (9, .int (iZ z.2.2.2.2.2.1)), (10, .int (iZ z.2.2.2.2.2.2.1)), (11, .int (iZ z.2.2.2.2.2.2.2.1)), (12, .ref z.2.2.2.2.2.2.2.2.1), (16, .int (iZ z.2.2.2.2.2.2.2.2.2.1))] [] z.2.2.2.2.2.2.2.2.2.2.1 z.2.2.2.2.2.2.2.2.2.2.2.1) (fun k hrec z hp hh => w_Lc_529 hF hΩ hnn hE (fun x2 x4 x5 x7 x8 x9 x10 x11 x12 x16 p0 q0 c0 w0 w1 w2 w3 w4 w5 w6 w7 w8 w9 w10 w11 hh => hrec (x2, x4, x5, x7, x8, x9, x10, x11, x12, x16, p0, q0, c0) ⟨w0, w1, w2, w3, w4, w5, w6, w7, w8, w9, w10, w11⟩ hh) hp.1 hp.2.1 hp.2.2.1 hp.2.2.2.1 hp.2.2.2.2.1 hp.2.2.2.2.2.1 hp.2.2.2.2.2.2.1 hp.2.2.2.2.2.2.2.1 hp.2.2.2.2.2.2.2.2.1 hp.2.2.2.2.2.2.2.2.2.1 hp.2.2.2.2.2.2.2.2.2.2.1 hp.2.2.2.2.2.2.2.2.2.2.2 hh) N (x2, x4, x5, x7, x8, x9, x10, x11, x12, x16, p0, q0, c0) ⟨r_x2, r_x4, r_x5, r_x7, k_x8, r_x9, r_x10, r_x11, k_x12, r_x16, hR_p0, hR_q0⟩ h
set_option maxHeartbeats 4000000 in
set_option maxRecDepth 20000 in
theorem w_Lc_461 {Y : lB} {L : Nat} {xs : Nat → Int32} {ρ : Nat → Nat × Nat} {x : Nat} {sa : Nat × Nat × Nat} {N nn : Nat} {Ω : oB} (hF : yF Y L xs ρ x sa) (hΩ : yOk Y xs L x sa Ω) (hnn : nn < 1000) {res : Int} (hE : res = 1) {k461 : (Int → Int → Int → Int → Nat → Int → Int → Int → Nat → Int → Int → qM → qM → Nat → Option (Int))} (hk461 : ∀ (x2 : Int) (x4 : Int) (x5 : Int) (x7 : Int) (x8 : Nat) (x9 : Int) (x10 : Int) (x11 : Int) (x12 : Nat) (x13 : Int) (x16 : Int) (p0 q0 : qM) (c0 : Nat), in32 x2 → in32 x4 → in32 x5 → in32 x7 → gK (y8 Y) x8 = 1000 + nn → in32 x9 → in32 x10 → in32 x11 → gK (y8 Y) x12 = 5003 → in32 x13 → in32 x16 → qR (y7 Y) p0 → qR (y8 Y) q0 → k461 x2 x4 x5 x7 x8 x9 x10 x11 x12 x13 x16 p0 q0 c0 = some res → yN Y c0 461 [(0, .ref (ya Y)), (1, .ref x), (2, .int (iZ x2)), (4, .int (iZ x4)), (5, .int (iZ x5)), (7, .int (iZ x7)), (8, .ref x8), (9, .int (iZ x9)), (10, .int (iZ x10)), (11, .int (iZ x11)), (12, .ref x12), (13, .int (iZ x13)), (16, .int (iZ x16))] [] p0 q0)
    {x2 : Int} {x4 : Int} {x5 : Int} {x7 : Int} {x8 : Nat} {x9 : Int} {x10 : Int} {x11 : Int} {x12 : Nat} {x13 : Int} {x16 : Int} (r_x2 : in32 x2) (r_x4 : in32 x4) (r_x5 : in32 x5) (r_x7 : in32 x7) (k_x8 : gK (y8 Y) x8 = 1000 + nn) (r_x9 : in32 x9) (r_x10 : in32 x10) (r_x11 : in32 x11) (k_x12 : gK (y8 Y) x12 = 5003) (r_x13 : in32 x13) (r_x16 : in32 x16) {p0 q0 : qM} {c0 : Nat} (hR_p0 : qR (y7 Y) p0) (hR_q0 : qR (y8 Y) q0)
    (h : f_Lc_461 N (y7 Y) x Ω (gK (y8 Y)) nn k461 x2 x4 x5 x7 x8 x9 x10 x11 x12 x13 x16 p0 q0 c0 = some res) : yN Y c0 461 [(0, .ref (ya Y)), (1, .ref x), (2, .int (iZ x2)), (4, .int (iZ x4)), (5, .int (iZ x5)), (7, .int (iZ x7)), (8, .ref x8), (9, .int (iZ x9)), (10, .int (iZ x10)), (11, .int (iZ x11)), (12, .ref x12), (13, .int (iZ x13)), (16, .int (iZ x16))] [] p0 q0 := by
  unfold f_Lc_461 at h
  refine p_iload hF (pc := 461) dL_law_461 12 rfl ?_
  refine p_iload hF (pc := 463) dL_law_463 4 rfl ?_
  refine p_icmp_ge hF (pc := 465) r_x16 r_x5 519 dL_law_465 (by decide) (fun t1 => ?_) (fun t1 => ?_)
  · have h := ite_f h t1
    refine p_iload hF (pc := 519) dL_law_519 11 rfl ?_
    refine p_if_eq hF (pc := 521) r_x13 526 dL_law_521 (by decide) (fun t2 => ?_) (fun t2 => ?_)
    · have h := ite_t h t2
      refine p_iconst hF (pc := 526) dL_law_526 ?_
      refine p_istore hF (pc := 527) (ls' := [(16, .int (iZ 0)), (0, .ref (ya Y)), (1, .ref x), (2, .int (iZ x2)), (4, .int (iZ x4)), (5, .int (iZ x5)), (7, .int (iZ x7)), (8, .ref x8), (9, .int (iZ x9)), (10, .int (iZ x10)), (11, .int (iZ x11)), (12, .ref x12), (13, .int (iZ x13))]) dL_law_527 rfl rfl ?_
      refine p_sub (ls' := [(0, .ref (ya Y)), (1, .ref x), (2, .int (iZ x2)), (4, .int (iZ x4)), (5, .int (iZ x5)), (7, .int (iZ x7)), (8, .ref x8), (9, .int (iZ x9)), (10, .int (iZ x10)), (11, .int (iZ x11)), (12, .ref x12), (16, .int (iZ 0))]) [1, 2, 3, 4, 5, 6, 7, 8, 9, 10, 11, 0] rfl ?_
      exact w_Lc_L529 hF hΩ hnn hE  r_x2 r_x4 r_x5 r_x7 k_x8 r_x9 r_x10 r_x11 k_x12 (by decide) hR_p0 hR_q0 h
    · have h := ite_f h t2
      cases h
  · have h := ite_t h t1
    refine p_aload hF (pc := 468) dL_law_468 10 rfl ?_
    refine p_iconst hF (pc := 470) dL_law_470 ?_
    obtain ⟨o3, e_o3, b_o3, k_o3, h⟩ := rdQ_e h
    refine p_aaldR hF (pc := 471) 3 dL_law_471 k_x12 (by decide) b_o3 e_o3 ?_
    refine p_iload hF (pc := 472) dL_law_472 12 rfl ?_
    refine p_iload hF (pc := 474) dL_law_474 11 rfl ?_
    refine p_aload hF (pc := 476) dL_law_476 6 rfl ?_
    refine p_iload hF (pc := 478) dL_law_478 12 rfl ?_
    obtain ⟨v4, e_v4, b_v4, h⟩ := rdA_e h
    have r_v4 : in32 v4 := by rw [e_v4]; exact hR_q0.a (n := nn) _ k_x8 hnn
    refine p_iald hF (pc := 480) nn dL_law_480 k_x8 hnn b_v4 e_v4 ?_
    refine p_aload hF (pc := 481) dL_law_481 10 rfl ?_
    refine p_iconst hF (pc := 483) dL_law_483 ?_
    obtain ⟨o5, e_o5, b_o5, k_o5, h⟩ := rdQ_e h
    refine p_aaldR hF (pc := 484) 3 dL_law_484 k_x12 (by decide) b_o5 e_o5 ?_
    refine p_iload hF (pc := 485) dL_law_485 12 rfl ?_
    obtain ⟨v6, e_v6, b_v6, h⟩ := rdA_e h
    have r_v6 : in32 v6 := by rw [e_v6]; exact hR_q0.a (n := nn) _ k_o5 hnn
    refine p_iald hF (pc := 487) nn dL_law_487 k_o5 hnn b_v6 e_v6 ?_
    obtain ⟨v7, e_v7, r_v7, h⟩ := ckI_e h
    refine p_isub hF (pc := 488) dL_law_488 e_v7 ?_
    refine p_aload hF (pc := 489) dL_law_489 10 rfl ?_
    refine p_iconst hF (pc := 491) dL_law_491 ?_
    obtain ⟨o8, e_o8, b_o8, k_o8, h⟩ := rdQ_e h
    refine p_aaldR hF (pc := 492) 3 dL_law_492 k_x12 (by decide) b_o8 e_o8 ?_
    refine p_iload hF (pc := 493) dL_law_493 12 rfl ?_
    obtain ⟨v9, e_v9, b_v9, h⟩ := rdA_e h
    have r_v9 : in32 v9 := by rw [e_v9]; exact hR_q0.a (n := nn) _ k_o8 hnn
    refine p_iald hF (pc := 495) nn dL_law_495 k_o8 hnn b_v9 e_v9 ?_
    obtain ⟨v10, e_v10, r_v10, h⟩ := ckI_e h
    refine p_isub hF (pc := 496) dL_law_496 e_v10 ?_
    obtain ⟨v11, e_v11, h⟩ := kp_e h
    have r_v11 : in32 v11 := by rw [e_v11]; exact in32_min r_x13 r_v10
    refine p_min hF (pc := 497) r_x13 r_v10 dL_law_497 rfl e_v11 ?_
    obtain ⟨q12, e_q12, b_q12, h⟩ := wrA_e h
    refine p_iast hF (pc := 500) nn dL_law_500 k_o3 hnn b_q12 hR_q0 r_v11 e_q12 (fun hR_q12 => ?_) 
    refine p_iload hF (pc := 501) dL_law_501 11 rfl ?_
    refine p_aload hF (pc := 503) dL_law_503 10 rfl ?_
    refine p_iconst hF (pc := 505) dL_law_505 ?_
    obtain ⟨o13, e_o13, b_o13, k_o13, h⟩ := rdQ_e h
    refine p_aaldR hF (pc := 506) 3 dL_law_506 k_x12 (by decide) b_o13 e_o13 ?_
    refine p_iload hF (pc := 507) dL_law_507 12 rfl ?_
    obtain ⟨v14, e_v14, b_v14, h⟩ := rdA_e h
    have r_v14 : in32 v14 := by rw [e_v14]; exact hR_q12.a (n := nn) _ k_o13 hnn
    refine p_iald hF (pc := 509) nn dL_law_509 k_o13 hnn b_v14 e_v14 ?_
    obtain ⟨v15, e_v15, r_v15, h⟩ := ckI_e h
    refine p_isub hF (pc := 510) dL_law_510 e_v15 ?_
    refine p_istore hF (pc := 511) (ls' := [(13, .int (iZ v15)), (0, .ref (ya Y)), (1, .ref x), (2, .int (iZ x2)), (4, .int (iZ x4)), (5, .int (iZ x5)), (7, .int (iZ x7)), (8, .ref x8), (9, .int (iZ x9)), (10, .int (iZ x10)), (11, .int (iZ x11)), (12, .ref x12), (16, .int (iZ x16))]) dL_law_511 rfl rfl ?_
    obtain ⟨v16, e_v16, r_v16, h⟩ := ckI_e h
    refine p_iinc hF (pc := 513) (ls' := [(16, .int (iZ v16)), (13, .int (iZ v15)), (0, .ref (ya Y)), (1, .ref x), (2, .int (iZ x2)), (4, .int (iZ x4)), (5, .int (iZ x5)), (7, .int (iZ x7)), (8, .ref x8), (9, .int (iZ x9)), (10, .int (iZ x10)), (11, .int (iZ x11)), (12, .ref x12)]) dL_law_513 12 rfl e_v16 rfl rfl ?_
    refine p_goto hF (pc := 516) 461 dL_law_516 (by decide) ?_
    refine p_sub (ls' := [(0, .ref (ya Y)), (1, .ref x), (2, .int (iZ x2)), (4, .int (iZ x4)), (5, .int (iZ x5)), (7, .int (iZ x7)), (8, .ref x8), (9, .int (iZ x9)), (10, .int (iZ x10)), (11, .int (iZ x11)), (12, .ref x12), (13, .int (iZ v15)), (16, .int (iZ v16))]) [2, 3, 4, 5, 6, 7, 8, 9, 10, 11, 12, 1, 0] rfl ?_
    exact hk461 x2 x4 x5 x7 x8 x9 x10 x11 x12 v15 v16 p0 q12 c0 r_x2 r_x4 r_x5 r_x7 k_x8 r_x9 r_x10 r_x11 k_x12 r_v15 r_v16 hR_p0 hR_q12 h
set_option maxHeartbeats 4000000 in
set_option maxRecDepth 20000 in
theorem w_Lc_L461 {Y : lB} {L : Nat} {xs : Nat → Int32} {ρ : Nat → Nat × Nat} {x : Nat} {sa : Nat × Nat × Nat} {N nn : Nat} {Ω : oB} (hF : yF Y L xs ρ x sa) (hΩ : yOk Y xs L x sa Ω) (hnn : nn < 1000) {res : Int} (hE : res = 1) 
    {x2 : Int} {x4 : Int} {x5 : Int} {x7 : Int} {x8 : Nat} {x9 : Int} {x10 : Int} {x11 : Int} {x12 : Nat} {x13 : Int} {x16 : Int} (r_x2 : in32 x2) (r_x4 : in32 x4) (r_x5 : in32 x5) (r_x7 : in32 x7) (k_x8 : gK (y8 Y) x8 = 1000 + nn) (r_x9 : in32 x9) (r_x10 : in32 x10) (r_x11 : in32 x11) (k_x12 : gK (y8 Y) x12 = 5003) (r_x13 : in32 x13) (r_x16 : in32 x16) {p0 q0 : qM} {c0 : Nat} (hR_p0 : qR (y7 Y) p0) (hR_q0 : qR (y8 Y) q0)
    (h : f_Lc_L461 N (y7 Y) x Ω (gK (y8 Y)) nn  x2 x4 x5 x7 x8 x9 x10 x11 x12 x13 x16 p0 q0 c0 = some res) : yN Y c0 461 [(0, .ref (ya Y)), (1, .ref x), (2, .int (iZ x2)), (4, .int (iZ x4)), (5, .int (iZ x5)), (7, .int (iZ x7)), (8, .ref x8), (9, .int (iZ x9)), (10, .int (iZ x10)), (11, .int (iZ x11)), (12, .ref x12), (13, .int (iZ x13)), (16, .int (iZ x16))] [] p0 q0 := by
  unfold f_Lc_L461 at h
  exact qLoop_w (σ := Int × Int × Int × Int × Nat × Int × Int × Int × Nat × Int × Int × qM × qM × Nat) (P := fun z => in32 z.1 ∧ in32 z.2.1 ∧ in32 z.2.2.1 ∧ in32 z.2.2.2.1 ∧ gK (y8 Y) z.2.2.2.2.1 = 1000 + nn ∧ in32 z.2.2.2.2.2.1 ∧ in32 z.2.2.2.2.2.2.1 ∧ in32 z.2.2.2.2.2.2.2.1 ∧ gK (y8 Y) z.2.2.2.2.2.2.2.2.1 = 5003 ∧ in32 z.2.2.2.2.2.2.2.2.2.1 ∧ in32 z.2.2.2.2.2.2.2.2.2.2.1 ∧ qR (y7 Y) z.2.2.2.2.2.2.2.2.2.2.2.1 ∧ qR (y8 Y) z.2.2.2.2.2.2.2.2.2.2.2.2.1) (Q := fun z => yN Y z.2.2.2.2.2.2.2.2.2.2.2.2.2 461 [(0, .ref (ya Y)), (1, .ref x), (2, .int (iZ z.1)), (4, .int (iZ z.2.1)), (5, .int (iZ z.2.2.1)), (7, .int (iZ z.2.2.2.1)), (8, .ref z.2.2.2.2.1), (9, .int (iZ z.2.2.2.2.2.1)), (10, .int (iZ z.2.2.2.2.2.2.1)), (11, .int (iZ z.2.2.2.2.2.2.2.1)), (12, .ref z.2.2.2.2.2.2.2.2.1), (13, .int (iZ z.2.2.2.2.2.2.2.2.2.1)), (16, .int (iZ z.2.2.2.2.2.2.2.2.2.2.1))] [] z.2.2.2.2.2.2.2.2.2.2.2.1 z.2.2.2.2.2.2.2.2.2.2.2.2.1) (fun k hrec z hp hh => w_Lc_461 hF hΩ hnn hE (fun x2 x4 x5 x7 x8 x9 x10 x11 x12 x13 x16 p0 q0 c0 w0 w1 w2 w3 w4 w5 w6 w7 w8 w9 w10 w11 w12 hh => hrec (x2, x4, x5, x7, x8, x9, x10, x11, x12, x13, x16, p0, q0, c0) ⟨w0, w1, w2, w3, w4, w5, w6, w7, w8, w9, w10, w11, w12⟩ hh) hp.1 hp.2.1 hp.2.2.1 hp.2.2.2.1 hp.2.2.2.2.1 hp.2.2.2.2.2.1 hp.2.2.2.2.2.2.1 hp.2.2.2.2.2.2.2.1 hp.2.2.2.2.2.2.2.2.1 hp.2.2.2.2.2.2.2.2.2.1 hp.2.2.2.2.2.2.2.2.2.2.1 hp.2.2.2.2.2.2.2.2.2.2.2.1 hp.2.2.2.2.2.2.2.2.2.2.2.2 hh) N (x2, x4, x5, x7, x8, x9, x10, x11, x12, x13, x16, p0, q0, c0) ⟨r_x2, r_x4, r_x5, r_x7, k_x8, r_x9, r_x10, r_x11, k_x12, r_x13, r_x16, hR_p0, hR_q0⟩ h
set_option maxHeartbeats 4000000 in
set_option maxRecDepth 20000 in
theorem w_Lc_439 {Y : lB} {L : Nat} {xs : Nat → Int32} {ρ : Nat → Nat × Nat} {x : Nat} {sa : Nat × Nat × Nat} {N nn : Nat} {Ω : oB} (hF : yF Y L xs ρ x sa) (hΩ : yOk Y xs L x sa Ω) (hnn : nn < 1000) {res : Int} (hE : res = 1) {k380 : (Int → Int → Int → Int → Int → Nat → Int → Int → Int → Nat → Int → Int → Int → Int → qM → qM → Nat → Option (Int))} (hk380 : ∀ (x2 : Int) (x3 : Int) (x4 : Int) (x5 : Int) (x7 : Int) (x8 : Nat) (x9 : Int) (x10 : Int) (x11 : Int) (x12 : Nat) (x13 : Int) (x14 : Int) (x15 : Int) (x16 : Int) (p0 q0 : qM) (c0 : Nat), in32 x2 → in32 x3 → in32 x4 → in32 x5 → in32 x7 → gK (y8 Y) x8 = 1000 + nn → in32 x9 → in32 x10 → in32 x11 → gK (y8 Y) x12 = 5003 → in32 x13 → in32 x14 → in32 x15 → in32 x16 → qR (y7 Y) p0 → qR (y8 Y) q0 → k380 x2 x3 x4 x5 x7 x8 x9 x10 x11 x12 x13 x14 x15 x16 p0 q0 c0 = some res → yN Y c0 380 [(0, .ref (ya Y)), (1, .ref x), (2, .int (iZ x2)), (3, .int (iZ x3)), (4, .int (iZ x4)), (5, .int (iZ x5)), (7, .int (iZ x7)), (8, .ref x8), (9, .int (iZ x9)), (10, .int (iZ x10)), (11, .int (iZ x11)), (12, .ref x12), (13, .int (iZ x13)), (14, .int (iZ x14)), (15, .int (iZ x15)), (16, .int (iZ x16))] [] p0 q0)
    {x2 : Int} {x3 : Int} {x4 : Int} {x5 : Int} {x7 : Int} {x8 : Nat} {x9 : Int} {x10 : Int} {x11 : Int} {x12 : Nat} {x13 : Int} {x14 : Int} {x15 : Int} {x16 : Int} {s0 : Nat} {s1 : Int} {s2 : Int} (r_x2 : in32 x2) (r_x3 : in32 x3) (r_x4 : in32 x4) (r_x5 : in32 x5) (r_x7 : in32 x7) (k_x8 : gK (y8 Y) x8 = 1000 + nn) (r_x9 : in32 x9) (r_x10 : in32 x10) (r_x11 : in32 x11) (k_x12 : gK (y8 Y) x12 = 5003) (r_x13 : in32 x13) (r_x14 : in32 x14) (r_x15 : in32 x15) (r_x16 : in32 x16) (k_s0 : gK (y8 Y) s0 = 1000 + nn) (r_s1 : in32 s1) (r_s2 : in32 s2) {p0 q0 : qM} {c0 : Nat} (hR_p0 : qR (y7 Y) p0) (hR_q0 : qR (y8 Y) q0)
    (h : f_Lc_439 N (y7 Y) x Ω (gK (y8 Y)) nn k380 x2 x3 x4 x5 x7 x8 x9 x10 x11 x12 x13 x14 x15 x16 s0 s1 s2 p0 q0 c0 = some res) : yN Y c0 439 [(0, .ref (ya Y)), (1, .ref x), (2, .int (iZ x2)), (3, .int (iZ x3)), (4, .int (iZ x4)), (5, .int (iZ x5)), (7, .int (iZ x7)), (8, .ref x8), (9, .int (iZ x9)), (10, .int (iZ x10)), (11, .int (iZ x11)), (12, .ref x12), (13, .int (iZ x13)), (14, .int (iZ x14)), (15, .int (iZ x15)), (16, .int (iZ x16))] [.int (iZ s2), .int (iZ s1), .ref s0] p0 q0 := by
  unfold f_Lc_439 at h
  obtain ⟨q1, e_q1, b_q1, h⟩ := wrA_e h
  refine p_iast hF (pc := 439) nn dL_law_439 k_s0 hnn b_q1 hR_q0 r_s2 e_q1 (fun hR_q1 => ?_) 
  refine p_iload hF (pc := 440) dL_law_440 12 rfl ?_
  refine p_aload hF (pc := 442) dL_law_442 11 rfl ?_
  refine p_iconst hF (pc := 444) dL_law_444 ?_
  obtain ⟨o2, e_o2, b_o2, k_o2, h⟩ := rdQ_e h
  refine p_aaldR hF (pc := 445) 3 dL_law_445 k_x12 (by decide) b_o2 e_o2 ?_
  refine p_iload hF (pc := 446) dL_law_446 15 rfl ?_
  obtain ⟨v3, e_v3, b_v3, h⟩ := rdA_e h
  have r_v3 : in32 v3 := by rw [e_v3]; exact hR_q1.a (n := nn) _ k_o2 hnn
  refine p_iald hF (pc := 448) nn dL_law_448 k_o2 hnn b_v3 e_v3 ?_
  obtain ⟨v4, e_v4, r_v4, h⟩ := ckI_e h
  refine p_isub hF (pc := 449) dL_law_449 e_v4 ?_
  refine p_istore hF (pc := 450) (ls' := [(13, .int (iZ v4)), (0, .ref (ya Y)), (1, .ref x), (2, .int (iZ x2)), (3, .int (iZ x3)), (4, .int (iZ x4)), (5, .int (iZ x5)), (7, .int (iZ x7)), (8, .ref x8), (9, .int (iZ x9)), (10, .int (iZ x10)), (11, .int (iZ x11)), (12, .ref x12), (14, .int (iZ x14)), (15, .int (iZ x15)), (16, .int (iZ x16))]) dL_law_450 rfl rfl ?_
  obtain ⟨v5, e_v5, r_v5, h⟩ := ckI_e h
  refine p_iinc hF (pc := 452) (ls' := [(16, .int (iZ v5)), (13, .int (iZ v4)), (0, .ref (ya Y)), (1, .ref x), (2, .int (iZ x2)), (3, .int (iZ x3)), (4, .int (iZ x4)), (5, .int (iZ x5)), (7, .int (iZ x7)), (8, .ref x8), (9, .int (iZ x9)), (10, .int (iZ x10)), (11, .int (iZ x11)), (12, .ref x12), (14, .int (iZ x14)), (15, .int (iZ x15))]) dL_law_452 15 rfl e_v5 rfl rfl ?_
  refine p_goto hF (pc := 455) 380 dL_law_455 (by decide) ?_
  refine p_sub (ls' := [(0, .ref (ya Y)), (1, .ref x), (2, .int (iZ x2)), (3, .int (iZ x3)), (4, .int (iZ x4)), (5, .int (iZ x5)), (7, .int (iZ x7)), (8, .ref x8), (9, .int (iZ x9)), (10, .int (iZ x10)), (11, .int (iZ x11)), (12, .ref x12), (13, .int (iZ v4)), (14, .int (iZ x14)), (15, .int (iZ x15)), (16, .int (iZ v5))]) [2, 3, 4, 5, 6, 7, 8, 9, 10, 11, 12, 13, 1, 14, 15, 0] rfl ?_
  exact hk380 x2 x3 x4 x5 x7 x8 x9 x10 x11 x12 v4 x14 x15 v5 p0 q1 c0 r_x2 r_x3 r_x4 r_x5 r_x7 k_x8 r_x9 r_x10 r_x11 k_x12 r_v4 r_x14 r_x15 r_v5 hR_p0 hR_q1 h
set_option maxHeartbeats 4000000 in
set_option maxRecDepth 20000 in
theorem w_Lc_419 {Y : lB} {L : Nat} {xs : Nat → Int32} {ρ : Nat → Nat × Nat} {x : Nat} {sa : Nat × Nat × Nat} {N nn : Nat} {Ω : oB} (hF : yF Y L xs ρ x sa) (hΩ : yOk Y xs L x sa Ω) (hnn : nn < 1000) {res : Int} (hE : res = 1) {k380 : (Int → Int → Int → Int → Int → Nat → Int → Int → Int → Nat → Int → Int → Int → Int → qM → qM → Nat → Option (Int))} (hk380 : ∀ (x2 : Int) (x3 : Int) (x4 : Int) (x5 : Int) (x7 : Int) (x8 : Nat) (x9 : Int) (x10 : Int) (x11 : Int) (x12 : Nat) (x13 : Int) (x14 : Int) (x15 : Int) (x16 : Int) (p0 q0 : qM) (c0 : Nat), in32 x2 → in32 x3 → in32 x4 → in32 x5 → in32 x7 → gK (y8 Y) x8 = 1000 + nn → in32 x9 → in32 x10 → in32 x11 → gK (y8 Y) x12 = 5003 → in32 x13 → in32 x14 → in32 x15 → in32 x16 → qR (y7 Y) p0 → qR (y8 Y) q0 → k380 x2 x3 x4 x5 x7 x8 x9 x10 x11 x12 x13 x14 x15 x16 p0 q0 c0 = some res → yN Y c0 380 [(0, .ref (ya Y)), (1, .ref x), (2, .int (iZ x2)), (3, .int (iZ x3)), (4, .int (iZ x4)), (5, .int (iZ x5)), (7, .int (iZ x7)), (8, .ref x8), (9, .int (iZ x9)), (10, .int (iZ x10)), (11, .int (iZ x11)), (12, .ref x12), (13, .int (iZ x13)), (14, .int (iZ x14)), (15, .int (iZ x15)), (16, .int (iZ x16))] [] p0 q0)
    {x2 : Int} {x3 : Int} {x4 : Int} {x5 : Int} {x7 : Int} {x8 : Nat} {x9 : Int} {x10 : Int} {x11 : Int} {x12 : Nat} {x13 : Int} {x14 : Int} {x15 : Int} {x16 : Int} {s0 : Int} (r_x2 : in32 x2) (r_x3 : in32 x3) (r_x4 : in32 x4) (r_x5 : in32 x5) (r_x7 : in32 x7) (k_x8 : gK (y8 Y) x8 = 1000 + nn) (r_x9 : in32 x9) (r_x10 : in32 x10) (r_x11 : in32 x11) (k_x12 : gK (y8 Y) x12 = 5003) (r_x13 : in32 x13) (r_x14 : in32 x14) (r_x15 : in32 x15) (r_x16 : in32 x16) (r_s0 : in32 s0) {p0 q0 : qM} {c0 : Nat} (hR_p0 : qR (y7 Y) p0) (hR_q0 : qR (y8 Y) q0)
    (h : f_Lc_419 N (y7 Y) x Ω (gK (y8 Y)) nn k380 x2 x3 x4 x5 x7 x8 x9 x10 x11 x12 x13 x14 x15 x16 s0 p0 q0 c0 = some res) : yN Y c0 419 [(0, .ref (ya Y)), (1, .ref x), (2, .int (iZ x2)), (3, .int (iZ x3)), (4, .int (iZ x4)), (5, .int (iZ x5)), (7, .int (iZ x7)), (8, .ref x8), (9, .int (iZ x9)), (10, .int (iZ x10)), (11, .int (iZ x11)), (12, .ref x12), (13, .int (iZ x13)), (14, .int (iZ x14)), (15, .int (iZ x15)), (16, .int (iZ x16))] [.int (iZ s0)] p0 q0 := by
  unfold f_Lc_419 at h
  refine p_istore hF (pc := 419) (ls' := [(17, .int (iZ s0)), (0, .ref (ya Y)), (1, .ref x), (2, .int (iZ x2)), (3, .int (iZ x3)), (4, .int (iZ x4)), (5, .int (iZ x5)), (7, .int (iZ x7)), (8, .ref x8), (9, .int (iZ x9)), (10, .int (iZ x10)), (11, .int (iZ x11)), (12, .ref x12), (13, .int (iZ x13)), (14, .int (iZ x14)), (15, .int (iZ x15)), (16, .int (iZ x16))]) dL_law_419 rfl rfl ?_
  refine p_aload hF (pc := 421) dL_law_421 12 rfl ?_
  refine p_iconst hF (pc := 423) dL_law_423 ?_
  obtain ⟨o1, e_o1, b_o1, k_o1, h⟩ := rdQ_e h
  refine p_aaldR hF (pc := 424) 3 dL_law_424 k_x12 (by decide) b_o1 e_o1 ?_
  refine p_iload hF (pc := 425) dL_law_425 16 rfl ?_
  refine p_iload hF (pc := 427) dL_law_427 0 rfl ?_
  refine p_iload_n hF (pc := 429) dL_law_429 4 rfl rfl ?_
  refine p_icmp_ge hF (pc := 430) r_s0 r_x3 437 dL_law_430 (by decide) (fun t2 => ?_) (fun t2 => ?_)
  · have h := ite_f h t2
    refine p_iload hF (pc := 437) dL_law_437 0 rfl ?_
    refine p_sub (ls' := [(0, .ref (ya Y)), (1, .ref x), (2, .int (iZ x2)), (3, .int (iZ x3)), (4, .int (iZ x4)), (5, .int (iZ x5)), (7, .int (iZ x7)), (8, .ref x8), (9, .int (iZ x9)), (10, .int (iZ x10)), (11, .int (iZ x11)), (12, .ref x12), (13, .int (iZ x13)), (14, .int (iZ x14)), (15, .int (iZ x15)), (16, .int (iZ x16))]) [1, 2, 3, 4, 5, 6, 7, 8, 9, 10, 11, 12, 13, 14, 15, 16] rfl ?_
    exact w_Lc_439 hF hΩ hnn hE hk380 r_x2 r_x3 r_x4 r_x5 r_x7 k_x8 r_x9 r_x10 r_x11 k_x12 r_x13 r_x14 r_x15 r_x16 k_o1 r_x16 r_s0 hR_p0 hR_q0 h
  · have h := ite_t h t2
    refine p_iconst hF (pc := 433) dL_law_433 ?_
    refine p_goto hF (pc := 434) 439 dL_law_434 (by decide) ?_
    refine p_sub (ls' := [(0, .ref (ya Y)), (1, .ref x), (2, .int (iZ x2)), (3, .int (iZ x3)), (4, .int (iZ x4)), (5, .int (iZ x5)), (7, .int (iZ x7)), (8, .ref x8), (9, .int (iZ x9)), (10, .int (iZ x10)), (11, .int (iZ x11)), (12, .ref x12), (13, .int (iZ x13)), (14, .int (iZ x14)), (15, .int (iZ x15)), (16, .int (iZ x16))]) [1, 2, 3, 4, 5, 6, 7, 8, 9, 10, 11, 12, 13, 14, 15, 16] rfl ?_
    exact w_Lc_439 hF hΩ hnn hE hk380 r_x2 r_x3 r_x4 r_x5 r_x7 k_x8 r_x9 r_x10 r_x11 k_x12 r_x13 r_x14 r_x15 r_x16 k_o1 r_x16 (by decide) hR_p0 hR_q0 h
set_option maxHeartbeats 4000000 in
set_option maxRecDepth 20000 in
theorem w_Lc_380 {Y : lB} {L : Nat} {xs : Nat → Int32} {ρ : Nat → Nat × Nat} {x : Nat} {sa : Nat × Nat × Nat} {N nn : Nat} {Ω : oB} (hF : yF Y L xs ρ x sa) (hΩ : yOk Y xs L x sa Ω) (hnn : nn < 1000) {res : Int} (hE : res = 1) {k380 : (Int → Int → Int → Int → Int → Nat → Int → Int → Int → Nat → Int → Int → Int → Int → qM → qM → Nat → Option (Int))} (hk380 : ∀ (x2 : Int) (x3 : Int) (x4 : Int) (x5 : Int) (x7 : Int) (x8 : Nat) (x9 : Int) (x10 : Int) (x11 : Int) (x12 : Nat) (x13 : Int) (x14 : Int) (x15 : Int) (x16 : Int) (p0 q0 : qM) (c0 : Nat), in32 x2 → in32 x3 → in32 x4 → in32 x5 → in32 x7 → gK (y8 Y) x8 = 1000 + nn → in32 x9 → in32 x10 → in32 x11 → gK (y8 Y) x12 = 5003 → in32 x13 → in32 x14 → in32 x15 → in32 x16 → qR (y7 Y) p0 → qR (y8 Y) q0 → k380 x2 x3 x4 x5 x7 x8 x9 x10 x11 x12 x13 x14 x15 x16 p0 q0 c0 = some res → yN Y c0 380 [(0, .ref (ya Y)), (1, .ref x), (2, .int (iZ x2)), (3, .int (iZ x3)), (4, .int (iZ x4)), (5, .int (iZ x5)), (7, .int (iZ x7)), (8, .ref x8), (9, .int (iZ x9)), (10, .int (iZ x10)), (11, .int (iZ x11)), (12, .ref x12), (13, .int (iZ x13)), (14, .int (iZ x14)), (15, .int (iZ x15)), (16, .int (iZ x16))] [] p0 q0)
    {x2 : Int} {x3 : Int} {x4 : Int} {x5 : Int} {x7 : Int} {x8 : Nat} {x9 : Int} {x10 : Int} {x11 : Int} {x12 : Nat} {x13 : Int} {x14 : Int} {x15 : Int} {x16 : Int} (r_x2 : in32 x2) (r_x3 : in32 x3) (r_x4 : in32 x4) (r_x5 : in32 x5) (r_x7 : in32 x7) (k_x8 : gK (y8 Y) x8 = 1000 + nn) (r_x9 : in32 x9) (r_x10 : in32 x10) (r_x11 : in32 x11) (k_x12 : gK (y8 Y) x12 = 5003) (r_x13 : in32 x13) (r_x14 : in32 x14) (r_x15 : in32 x15) (r_x16 : in32 x16) {p0 q0 : qM} {c0 : Nat} (hR_p0 : qR (y7 Y) p0) (hR_q0 : qR (y8 Y) q0)
    (h : f_Lc_380 N (y7 Y) x Ω (gK (y8 Y)) nn k380 x2 x3 x4 x5 x7 x8 x9 x10 x11 x12 x13 x14 x15 x16 p0 q0 c0 = some res) : yN Y c0 380 [(0, .ref (ya Y)), (1, .ref x), (2, .int (iZ x2)), (3, .int (iZ x3)), (4, .int (iZ x4)), (5, .int (iZ x5)), (7, .int (iZ x7)), (8, .ref x8), (9, .int (iZ x9)), (10, .int (iZ x10)), (11, .int (iZ x11)), (12, .ref x12), (13, .int (iZ x13)), (14, .int (iZ x14)), (15, .int (iZ x15)), (16, .int (iZ x16))] [] p0 q0 := by
  unfold f_Lc_380 at h
  refine p_iload hF (pc := 380) dL_law_380 15 rfl ?_
  refine p_iload hF (pc := 382) dL_law_382 5 rfl ?_
  refine p_icmp_ge hF (pc := 384) r_x16 r_x5 458 dL_law_384 (by decide) (fun t1 => ?_) (fun t1 => ?_)
  · have h := ite_f h t1
    refine p_iconst hF (pc := 458) dL_law_458 ?_
    refine p_istore hF (pc := 459) (ls' := [(16, .int (iZ 0)), (0, .ref (ya Y)), (1, .ref x), (2, .int (iZ x2)), (3, .int (iZ x3)), (4, .int (iZ x4)), (5, .int (iZ x5)), (7, .int (iZ x7)), (8, .ref x8), (9, .int (iZ x9)), (10, .int (iZ x10)), (11, .int (iZ x11)), (12, .ref x12), (13, .int (iZ x13)), (14, .int (iZ x14)), (15, .int (iZ x15))]) dL_law_459 rfl rfl ?_
    refine p_sub (ls' := [(0, .ref (ya Y)), (1, .ref x), (2, .int (iZ x2)), (4, .int (iZ x4)), (5, .int (iZ x5)), (7, .int (iZ x7)), (8, .ref x8), (9, .int (iZ x9)), (10, .int (iZ x10)), (11, .int (iZ x11)), (12, .ref x12), (13, .int (iZ x13)), (16, .int (iZ 0))]) [1, 2, 3, 5, 6, 7, 8, 9, 10, 11, 12, 13, 0] rfl ?_
    exact w_Lc_L461 hF hΩ hnn hE  r_x2 r_x4 r_x5 r_x7 k_x8 r_x9 r_x10 r_x11 k_x12 r_x13 (by decide) hR_p0 hR_q0 h
  · have h := ite_t h t1
    refine p_iload hF (pc := 387) dL_law_387 14 rfl ?_
    refine p_if_ne hF (pc := 389) r_x15 396 dL_law_389 (by decide) (fun t2 => ?_) (fun t2 => ?_)
    · have h := ite_f h t2
      refine p_iload hF (pc := 396) dL_law_396 13 rfl ?_
      refine p_i2l hF (pc := 398) r_x14 dL_law_398 ?_
      refine p_aload hF (pc := 399) dL_law_399 7 rfl ?_
      refine p_iload hF (pc := 401) dL_law_401 15 rfl ?_
      obtain ⟨v3, e_v3, b_v3, h⟩ := rdA_e h
      have r_v3 : in32 v3 := by rw [e_v3]; exact hR_q0.a (n := nn) _ k_x8 hnn
      refine p_iald hF (pc := 403) nn dL_law_403 k_x8 hnn b_v3 e_v3 ?_
      refine p_aload hF (pc := 404) dL_law_404 11 rfl ?_
      refine p_iconst hF (pc := 406) dL_law_406 ?_
      obtain ⟨o4, e_o4, b_o4, k_o4, h⟩ := rdQ_e h
      refine p_aaldR hF (pc := 407) 3 dL_law_407 k_x12 (by decide) b_o4 e_o4 ?_
      refine p_iload hF (pc := 408) dL_law_408 15 rfl ?_
      obtain ⟨v5, e_v5, b_v5, h⟩ := rdA_e h
      have r_v5 : in32 v5 := by rw [e_v5]; exact hR_q0.a (n := nn) _ k_o4 hnn
      refine p_iald hF (pc := 410) nn dL_law_410 k_o4 hnn b_v5 e_v5 ?_
      obtain ⟨v6, e_v6, r_v6, h⟩ := ckI_e h
      refine p_isub hF (pc := 411) dL_law_411 e_v6 ?_
      refine p_i2l hF (pc := 412) r_v6 dL_law_412 ?_
      obtain ⟨v7, e_v7, r_v7, h⟩ := ckJ_e h
      refine p_lmul hF (pc := 413) dL_law_413 e_v7 ?_
      refine p_iload hF (pc := 414) dL_law_414 14 rfl ?_
      refine p_i2l hF (pc := 416) r_x15 dL_law_416 ?_
      obtain ⟨n_v8, h⟩ := ckD_e h
      obtain ⟨v8, e_v8, r_v8, h⟩ := ckJ_e h
      refine p_ldiv hF (pc := 417) r_v7 (in32.l r_x15) n_v8 dL_law_417 e_v8 ?_
      obtain ⟨v9, e_v9, r_v9, h⟩ := ckI_e h
      refine p_l2iv hF (pc := 418) dL_law_418 e_v9 ?_
      refine p_sub (ls' := [(0, .ref (ya Y)), (1, .ref x), (2, .int (iZ x2)), (3, .int (iZ x3)), (4, .int (iZ x4)), (5, .int (iZ x5)), (7, .int (iZ x7)), (8, .ref x8), (9, .int (iZ x9)), (10, .int (iZ x10)), (11, .int (iZ x11)), (12, .ref x12), (13, .int (iZ x13)), (14, .int (iZ x14)), (15, .int (iZ x15)), (16, .int (iZ x16))]) [0, 1, 2, 3, 4, 5, 6, 7, 8, 9, 10, 11, 12, 13, 14, 15] rfl ?_
      exact w_Lc_419 hF hΩ hnn hE hk380 r_x2 r_x3 r_x4 r_x5 r_x7 k_x8 r_x9 r_x10 r_x11 k_x12 r_x13 r_x14 r_x15 r_x16 r_v9 hR_p0 hR_q0 h
    · have h := ite_t h t2
      refine p_iconst hF (pc := 392) dL_law_392 ?_
      refine p_goto hF (pc := 393) 419 dL_law_393 (by decide) ?_
      refine p_sub (ls' := [(0, .ref (ya Y)), (1, .ref x), (2, .int (iZ x2)), (3, .int (iZ x3)), (4, .int (iZ x4)), (5, .int (iZ x5)), (7, .int (iZ x7)), (8, .ref x8), (9, .int (iZ x9)), (10, .int (iZ x10)), (11, .int (iZ x11)), (12, .ref x12), (13, .int (iZ x13)), (14, .int (iZ x14)), (15, .int (iZ x15)), (16, .int (iZ x16))]) [0, 1, 2, 3, 4, 5, 6, 7, 8, 9, 10, 11, 12, 13, 14, 15] rfl ?_
      exact w_Lc_419 hF hΩ hnn hE hk380 r_x2 r_x3 r_x4 r_x5 r_x7 k_x8 r_x9 r_x10 r_x11 k_x12 r_x13 r_x14 r_x15 r_x16 (by decide) hR_p0 hR_q0 h
set_option maxHeartbeats 4000000 in
set_option maxRecDepth 20000 in
theorem w_Lc_L380 {Y : lB} {L : Nat} {xs : Nat → Int32} {ρ : Nat → Nat × Nat} {x : Nat} {sa : Nat × Nat × Nat} {N nn : Nat} {Ω : oB} (hF : yF Y L xs ρ x sa) (hΩ : yOk Y xs L x sa Ω) (hnn : nn < 1000) {res : Int} (hE : res = 1) 
    {x2 : Int} {x3 : Int} {x4 : Int} {x5 : Int} {x7 : Int} {x8 : Nat} {x9 : Int} {x10 : Int} {x11 : Int} {x12 : Nat} {x13 : Int} {x14 : Int} {x15 : Int} {x16 : Int} (r_x2 : in32 x2) (r_x3 : in32 x3) (r_x4 : in32 x4) (r_x5 : in32 x5) (r_x7 : in32 x7) (k_x8 : gK (y8 Y) x8 = 1000 + nn) (r_x9 : in32 x9) (r_x10 : in32 x10) (r_x11 : in32 x11) (k_x12 : gK (y8 Y) x12 = 5003) (r_x13 : in32 x13) (r_x14 : in32 x14) (r_x15 : in32 x15) (r_x16 : in32 x16) {p0 q0 : qM} {c0 : Nat} (hR_p0 : qR (y7 Y) p0) (hR_q0 : qR (y8 Y) q0)
    (h : f_Lc_L380 N (y7 Y) x Ω (gK (y8 Y)) nn  x2 x3 x4 x5 x7 x8 x9 x10 x11 x12 x13 x14 x15 x16 p0 q0 c0 = some res) : yN Y c0 380 [(0, .ref (ya Y)), (1, .ref x), (2, .int (iZ x2)), (3, .int (iZ x3)), (4, .int (iZ x4)), (5, .int (iZ x5)), (7, .int (iZ x7)), (8, .ref x8), (9, .int (iZ x9)), (10, .int (iZ x10)), (11, .int (iZ x11)), (12, .ref x12), (13, .int (iZ x13)), (14, .int (iZ x14)), (15, .int (iZ x15)), (16, .int (iZ x16))] [] p0 q0 := by
  unfold f_Lc_L380 at h
  exact qLoop_w (σ := Int × Int × Int × Int × Int × Nat × Int × Int × Int × Nat × Int × Int × Int × Int × qM × qM × Nat) (P := fun z => in32 z.1 ∧ in32 z.2.1 ∧ in32 z.2.2.1 ∧ in32 z.2.2.2.1 ∧ in32 z.2.2.2.2.1 ∧ gK (y8 Y) z.2.2.2.2.2.1 = 1000 + nn ∧ in32 z.2.2.2.2.2.2.1 ∧ in32 z.2.2.2.2.2.2.2.1 ∧ in32 z.2.2.2.2.2.2.2.2.1 ∧ gK (y8 Y) z.2.2.2.2.2.2.2.2.2.1 = 5003 ∧ in32 z.2.2.2.2.2.2.2.2.2.2.1 ∧ in32 z.2.2.2.2.2.2.2.2.2.2.2.1 ∧ in32 z.2.2.2.2.2.2.2.2.2.2.2.2.1 ∧ in32 z.2.2.2.2.2.2.2.2.2.2.2.2.2.1 ∧ qR (y7 Y) z.2.2.2.2.2.2.2.2.2.2.2.2.2.2.1 ∧ qR (y8 Y) z.2.2.2.2.2.2.2.2.2.2.2.2.2.2.2.1) (Q := fun z => yN Y z.2.2.2.2.2.2.2.2.2.2.2.2.2.2.2.2 380 [(0, .ref (ya Y)), (1, .ref x), (2, .int (iZ z.1)), (3, .int (iZ z.2.1)), (4, .int (iZ z.2.2.1)), (5, .int (iZ z.2.2.2.1)), (7, .int (iZ z.2.2.2.2.1)), (8, .ref z.2.2.2.2.2.1), (9, .int (iZ z.2.2.2.2.2.2.1)), (10, .int (iZ z.2.2.2.2.2.2.2.1)), (11, .int (iZ z.2.2.2.2.2.2.2.2.1)), (12, .ref z.2.2.2.2.2.2.2.2.2.1), (13, .int (iZ z.2.2.2.2.2.2.2.2.2.2.1)), (14, .int (iZ z.2.2.2.2.2.2.2.2.2.2.2.1)), (15, .int (iZ z.2.2.2.2.2.2.2.2.2.2.2.2.1)), (16, .int (iZ z.2.2.2.2.2.2.2.2.2.2.2.2.2.1))] [] z.2.2.2.2.2.2.2.2.2.2.2.2.2.2.1 z.2.2.2.2.2.2.2.2.2.2.2.2.2.2.2.1) (fun k hrec z hp hh => w_Lc_380 hF hΩ hnn hE (fun x2 x3 x4 x5 x7 x8 x9 x10 x11 x12 x13 x14 x15 x16 p0 q0 c0 w0 w1 w2 w3 w4 w5 w6 w7 w8 w9 w10 w11 w12 w13 w14 w15 hh => hrec (x2, x3, x4, x5, x7, x8, x9, x10, x11, x12, x13, x14, x15, x16, p0, q0, c0) ⟨w0, w1, w2, w3, w4, w5, w6, w7, w8, w9, w10, w11, w12, w13, w14, w15⟩ hh) hp.1 hp.2.1 hp.2.2.1 hp.2.2.2.1 hp.2.2.2.2.1 hp.2.2.2.2.2.1 hp.2.2.2.2.2.2.1 hp.2.2.2.2.2.2.2.1 hp.2.2.2.2.2.2.2.2.1 hp.2.2.2.2.2.2.2.2.2.1 hp.2.2.2.2.2.2.2.2.2.2.1 hp.2.2.2.2.2.2.2.2.2.2.2.1 hp.2.2.2.2.2.2.2.2.2.2.2.2.1 hp.2.2.2.2.2.2.2.2.2.2.2.2.2.1 hp.2.2.2.2.2.2.2.2.2.2.2.2.2.2.1 hp.2.2.2.2.2.2.2.2.2.2.2.2.2.2.2 hh) N (x2, x3, x4, x5, x7, x8, x9, x10, x11, x12, x13, x14, x15, x16, p0, q0, c0) ⟨r_x2, r_x3, r_x4, r_x5, r_x7, k_x8, r_x9, r_x10, r_x11, k_x12, r_x13, r_x14, r_x15, r_x16, hR_p0, hR_q0⟩ h
set_option maxHeartbeats 4000000 in
set_option maxRecDepth 20000 in
theorem w_Lc_351 {Y : lB} {L : Nat} {xs : Nat → Int32} {ρ : Nat → Nat × Nat} {x : Nat} {sa : Nat × Nat × Nat} {N nn : Nat} {Ω : oB} (hF : yF Y L xs ρ x sa) (hΩ : yOk Y xs L x sa Ω) (hnn : nn < 1000) {res : Int} (hE : res = 1) 
    {x2 : Int} {x3 : Int} {x4 : Int} {x5 : Int} {x7 : Int} {x8 : Nat} {x9 : Int} {x10 : Int} {x11 : Int} {x12 : Nat} {x13 : Int} (r_x2 : in32 x2) (r_x3 : in32 x3) (r_x4 : in32 x4) (r_x5 : in32 x5) (r_x7 : in32 x7) (k_x8 : gK (y8 Y) x8 = 1000 + nn) (r_x9 : in32 x9) (r_x10 : in32 x10) (r_x11 : in32 x11) (k_x12 : gK (y8 Y) x12 = 5003) (r_x13 : in32 x13) {p0 q0 : qM} {c0 : Nat} (hR_p0 : qR (y7 Y) p0) (hR_q0 : qR (y8 Y) q0)
    (h : f_Lc_351 N (y7 Y) x Ω (gK (y8 Y)) nn  x2 x3 x4 x5 x7 x8 x9 x10 x11 x12 x13 p0 q0 c0 = some res) : yN Y c0 351 [(0, .ref (ya Y)), (1, .ref x), (2, .int (iZ x2)), (3, .int (iZ x3)), (4, .int (iZ x4)), (5, .int (iZ x5)), (7, .int (iZ x7)), (8, .ref x8), (9, .int (iZ x9)), (10, .int (iZ x10)), (11, .int (iZ x11)), (12, .ref x12), (13, .int (iZ x13))] [] p0 q0 := by
  unfold f_Lc_351 at h
  refine p_iload hF (pc := 351) dL_law_351 12 rfl ?_
  refine p_aload hF (pc := 353) dL_law_353 11 rfl ?_
  refine p_iconst hF (pc := 355) dL_law_355 ?_
  obtain ⟨o1, e_o1, b_o1, k_o1, h⟩ := rdQ_e h
  refine p_aaldR hF (pc := 356) 3 dL_law_356 k_x12 (by decide) b_o1 e_o1 ?_
  refine p_iconst hF (pc := 357) dL_law_357 ?_
  obtain ⟨v2, e_v2, b_v2, h⟩ := rdA_e h
  have r_v2 : in32 v2 := by rw [e_v2]; exact hR_q0.a (n := nn) _ k_o1 hnn
  refine p_iald hF (pc := 358) nn dL_law_358 k_o1 hnn b_v2 e_v2 ?_
  obtain ⟨v3, e_v3, r_v3, h⟩ := ckI_e h
  refine p_isub hF (pc := 359) dL_law_359 e_v3 ?_
  refine p_istore hF (pc := 360) (ls' := [(13, .int (iZ v3)), (0, .ref (ya Y)), (1, .ref x), (2, .int (iZ x2)), (3, .int (iZ x3)), (4, .int (iZ x4)), (5, .int (iZ x5)), (7, .int (iZ x7)), (8, .ref x8), (9, .int (iZ x9)), (10, .int (iZ x10)), (11, .int (iZ x11)), (12, .ref x12)]) dL_law_360 rfl rfl ?_
  refine p_iload hF (pc := 362) dL_law_362 0 rfl ?_
  refine p_istore hF (pc := 364) (ls' := [(14, .int (iZ v3)), (13, .int (iZ v3)), (0, .ref (ya Y)), (1, .ref x), (2, .int (iZ x2)), (3, .int (iZ x3)), (4, .int (iZ x4)), (5, .int (iZ x5)), (7, .int (iZ x7)), (8, .ref x8), (9, .int (iZ x9)), (10, .int (iZ x10)), (11, .int (iZ x11)), (12, .ref x12)]) dL_law_364 rfl rfl ?_
  refine p_iload hF (pc := 366) dL_law_366 10 rfl ?_
  refine p_aload hF (pc := 368) dL_law_368 13 rfl ?_
  refine p_iconst hF (pc := 370) dL_law_370 ?_
  obtain ⟨o4, e_o4, b_o4, k_o4, h⟩ := rdQ_e h
  refine p_aaldR hF (pc := 371) 3 dL_law_371 k_x12 (by decide) b_o4 e_o4 ?_
  refine p_iconst hF (pc := 372) dL_law_372 ?_
  obtain ⟨v5, e_v5, b_v5, h⟩ := rdA_e h
  have r_v5 : in32 v5 := by rw [e_v5]; exact hR_q0.a (n := nn) _ k_o4 hnn
  refine p_iald hF (pc := 373) nn dL_law_373 k_o4 hnn b_v5 e_v5 ?_
  obtain ⟨v6, e_v6, r_v6, h⟩ := ckI_e h
  refine p_isub hF (pc := 374) dL_law_374 e_v6 ?_
  refine p_istore hF (pc := 375) (ls' := [(15, .int (iZ v6)), (14, .int (iZ v3)), (13, .int (iZ v3)), (0, .ref (ya Y)), (1, .ref x), (2, .int (iZ x2)), (3, .int (iZ x3)), (4, .int (iZ x4)), (5, .int (iZ x5)), (7, .int (iZ x7)), (8, .ref x8), (9, .int (iZ x9)), (10, .int (iZ x10)), (11, .int (iZ x11)), (12, .ref x12)]) dL_law_375 rfl rfl ?_
  refine p_iconst hF (pc := 377) dL_law_377 ?_
  refine p_istore hF (pc := 378) (ls' := [(16, .int (iZ 0)), (15, .int (iZ v6)), (14, .int (iZ v3)), (13, .int (iZ v3)), (0, .ref (ya Y)), (1, .ref x), (2, .int (iZ x2)), (3, .int (iZ x3)), (4, .int (iZ x4)), (5, .int (iZ x5)), (7, .int (iZ x7)), (8, .ref x8), (9, .int (iZ x9)), (10, .int (iZ x10)), (11, .int (iZ x11)), (12, .ref x12)]) dL_law_378 rfl rfl ?_
  refine p_sub (ls' := [(0, .ref (ya Y)), (1, .ref x), (2, .int (iZ x2)), (3, .int (iZ x3)), (4, .int (iZ x4)), (5, .int (iZ x5)), (7, .int (iZ x7)), (8, .ref x8), (9, .int (iZ x9)), (10, .int (iZ x10)), (11, .int (iZ x11)), (12, .ref x12), (13, .int (iZ v3)), (14, .int (iZ v3)), (15, .int (iZ v6)), (16, .int (iZ 0))]) [4, 5, 6, 7, 8, 9, 10, 11, 12, 13, 14, 15, 3, 2, 1, 0] rfl ?_
  exact w_Lc_L380 hF hΩ hnn hE  r_x2 r_x3 r_x4 r_x5 r_x7 k_x8 r_x9 r_x10 r_x11 k_x12 r_v3 r_v3 r_v6 (by decide) hR_p0 hR_q0 h
set_option maxHeartbeats 4000000 in
set_option maxRecDepth 20000 in
theorem w_Lc {Y : lB} {L : Nat} {xs : Nat → Int32} {ρ : Nat → Nat × Nat} {x : Nat} {sa : Nat × Nat × Nat} {N nn : Nat} {Ω : oB} (hF : yF Y L xs ρ x sa) (hΩ : yOk Y xs L x sa Ω) (hnn : nn < 1000) {res : Int} (hE : res = 1) 
    {x2 : Int} {x3 : Int} {x4 : Int} {x5 : Int} {x7 : Int} {x8 : Nat} {x9 : Int} {x10 : Int} {x11 : Int} {s0 : Nat} (r_x2 : in32 x2) (r_x3 : in32 x3) (r_x4 : in32 x4) (r_x5 : in32 x5) (r_x7 : in32 x7) (k_x8 : gK (y8 Y) x8 = 1000 + nn) (r_x9 : in32 x9) (r_x10 : in32 x10) (r_x11 : in32 x11) (k_s0 : gK (y8 Y) s0 = 5003) {p0 q0 : qM} {c0 : Nat} (hR_p0 : qR (y7 Y) p0) (hR_q0 : qR (y8 Y) q0)
    (h : f_Lc N (y7 Y) x Ω (gK (y8 Y)) nn  x2 x3 x4 x5 x7 x8 x9 x10 x11 s0 p0 q0 c0 = some res) : yN Y c0 321 [(0, .ref (ya Y)), (1, .ref x), (2, .int (iZ x2)), (3, .int (iZ x3)), (4, .int (iZ x4)), (5, .int (iZ x5)), (7, .int (iZ x7)), (8, .ref x8), (9, .int (iZ x9)), (10, .int (iZ x10)), (11, .int (iZ x11))] [.ref s0] p0 q0 := by
  unfold f_Lc at h
  refine p_astore hF (pc := 321) (ls' := [(12, .ref s0), (0, .ref (ya Y)), (1, .ref x), (2, .int (iZ x2)), (3, .int (iZ x3)), (4, .int (iZ x4)), (5, .int (iZ x5)), (7, .int (iZ x7)), (8, .ref x8), (9, .int (iZ x9)), (10, .int (iZ x10)), (11, .int (iZ x11))]) dL_law_321 rfl rfl ?_
  refine p_iload hF (pc := 323) dL_law_323 11 rfl ?_
  refine p_istore hF (pc := 325) (ls' := [(13, .int (iZ x11)), (12, .ref s0), (0, .ref (ya Y)), (1, .ref x), (2, .int (iZ x2)), (3, .int (iZ x3)), (4, .int (iZ x4)), (5, .int (iZ x5)), (7, .int (iZ x7)), (8, .ref x8), (9, .int (iZ x9)), (10, .int (iZ x10)), (11, .int (iZ x11))]) dL_law_325 rfl rfl ?_
  refine p_iload hF (pc := 327) dL_law_327 11 rfl ?_
  refine p_if_eq hF (pc := 329) r_x10 351 dL_law_329 (by decide) (fun t1 => ?_) (fun t1 => ?_)
  · have h := ite_t h t1
    refine p_sub (ls' := [(0, .ref (ya Y)), (1, .ref x), (2, .int (iZ x2)), (3, .int (iZ x3)), (4, .int (iZ x4)), (5, .int (iZ x5)), (7, .int (iZ x7)), (8, .ref x8), (9, .int (iZ x9)), (10, .int (iZ x10)), (11, .int (iZ x11)), (12, .ref s0), (13, .int (iZ x11))]) [2, 3, 4, 5, 6, 7, 8, 9, 10, 11, 12, 1, 0] rfl ?_
    exact w_Lc_351 hF hΩ hnn hE  r_x2 r_x3 r_x4 r_x5 r_x7 k_x8 r_x9 r_x10 r_x11 k_s0 r_x11 hR_p0 hR_q0 h
  · have h := ite_f h t1
    refine p_aload hF (pc := 332) dL_law_332 1 rfl ?_
    refine p_iconst hF (pc := 334) dL_law_334 ?_
    obtain ⟨o2, e_o2, b_o2, k_o2, h⟩ := rdQ_e h
    refine p_aaldR hF (pc := 335) 3 dL_law_335 k_s0 (by decide) b_o2 e_o2 ?_
    refine p_iconst hF (pc := 336) dL_law_336 ?_
    refine p_iload hF (pc := 337) dL_law_337 12 rfl ?_
    refine p_aload hF (pc := 339) dL_law_339 9 rfl ?_
    refine p_iconst hF (pc := 341) dL_law_341 ?_
    obtain ⟨v3, e_v3, b_v3, h⟩ := rdA_e h
    have r_v3 : in32 v3 := by rw [e_v3]; exact hR_q0.a (n := nn) _ k_x8 hnn
    refine p_iald hF (pc := 342) nn dL_law_342 k_x8 hnn b_v3 e_v3 ?_
    obtain ⟨v4, e_v4, h⟩ := kp_e h
    have r_v4 : in32 v4 := by rw [e_v4]; exact in32_min r_x11 r_v3
    refine p_min hF (pc := 343) r_x11 r_v3 dL_law_343 rfl e_v4 ?_
    refine p_iload_n hF (pc := 346) dL_law_346 4 rfl rfl ?_
    obtain ⟨v5, e_v5, h⟩ := kp_e h
    have r_v5 : in32 v5 := by rw [e_v5]; exact in32_min r_v4 r_x2
    refine p_min hF (pc := 347) r_v4 r_x2 dL_law_347 rfl e_v5 ?_
    obtain ⟨q6, e_q6, b_q6, h⟩ := wrA_e h
    refine p_iast hF (pc := 350) nn dL_law_350 k_o2 hnn b_q6 hR_q0 r_v5 e_q6 (fun hR_q6 => ?_) 
    refine p_sub (ls' := [(0, .ref (ya Y)), (1, .ref x), (2, .int (iZ x2)), (3, .int (iZ x3)), (4, .int (iZ x4)), (5, .int (iZ x5)), (7, .int (iZ x7)), (8, .ref x8), (9, .int (iZ x9)), (10, .int (iZ x10)), (11, .int (iZ x11)), (12, .ref s0), (13, .int (iZ x11))]) [2, 3, 4, 5, 6, 7, 8, 9, 10, 11, 12, 1, 0] rfl ?_
    exact w_Lc_351 hF hΩ hnn hE  r_x2 r_x3 r_x4 r_x5 r_x7 k_x8 r_x9 r_x10 r_x11 k_s0 r_x11 hR_p0 hR_q6 h
