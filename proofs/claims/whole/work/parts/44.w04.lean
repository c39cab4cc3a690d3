-- ProRataMarket$Sharing.idleStep
theorem hi_X5_idleStep_5 : ∀ w ∈ wsX50, w ∈ wsX5_idleStep := fun w h => List.mem_cons_of_mem _ (List.mem_append_right _ h)
theorem fd_X5_idleStep_27 : qFd RX5 wsX5_idleStep 27 5 4 1 504 := ⟨RX5, TX5, 8, _, rfl, hi_X5_idleStep_5, by decide, (by decide +kernel : Cond.fieldLink RX5 27 (TX5 4).1 (TX5 4).2.1 (TX5 4).2.2.1 ∈ wsX5_idleStep), rfl, rfl, by decide⟩
theorem fd_X5_idleStep_33 : qFd RX5 wsX5_idleStep 33 5 6 0 506 := ⟨RX5, TX5, 8, _, rfl, hi_X5_idleStep_5, by decide, (by decide +kernel : Cond.fieldLink RX5 33 (TX5 6).1 (TX5 6).2.1 (TX5 6).2.2.1 ∈ wsX5_idleStep), rfl, rfl, by decide⟩
theorem fd_X5_idleStep_17 : qFd RX5 wsX5_idleStep 17 5 1 1 501 := ⟨RX5, TX5, 8, _, rfl, hi_X5_idleStep_5, by decide, (by decide +kernel : Cond.fieldLink RX5 17 (TX5 1).1 (TX5 1).2.1 (TX5 1).2.2.1 ∈ wsX5_idleStep), rfl, rfl, by decide⟩
theorem fd_X5_idleStep_24 : qFd RX5 wsX5_idleStep 24 5 3 1 503 := ⟨RX5, TX5, 8, _, rfl, hi_X5_idleStep_5, by decide, (by decide +kernel : Cond.fieldLink RX5 24 (TX5 3).1 (TX5 3).2.1 (TX5 3).2.2.1 ∈ wsX5_idleStep), rfl, rfl, by decide⟩
set_option maxHeartbeats 4000000 in
set_option maxRecDepth 20000 in
theorem w_X5_idleStep_97 {X : qB} {N : Nat} (hX : qOk X cX5_idleStep RX5 10 (some .int) wsX5_idleStep 1 24) {r : Int} {nu : qM} (hE : xr X = some (.int (iZ r)) ∧ (in32 r → xΦ X) ∧ xμ X = nu) {k28 : (Nat → Int → Int → Int → Int → Int → Int → Int → Int → qM → Option (Int × qM))} (hk28 : ∀ (x0 : Nat) (x1 : Int) (x2 : Int) (x3 : Int) (x4 : Int) (x5 : Int) (x6 : Int) (x7 : Int) (x8 : Int) (m0 : qM), gK (xG X) x0 = 6 → in32 x1 → in32 x2 → in32 x3 → in32 x4 → in32 x5 → in32 x6 → in32 x7 → in32 x8 → qR (xG X) m0 → k28 x0 x1 x2 x3 x4 x5 x6 x7 x8 m0 = some (r, nu) → qN X 10 28 [(0, .ref x0), (1, .int (iZ x1)), (2, .int (iZ x2)), (3, .int (iZ x3)), (4, .int (iZ x4)), (5, .int (iZ x5)), (6, .int (iZ x6)), (7, .int (iZ x7)), (8, .int (iZ x8))] [] m0)
    {x0 : Nat} {x1 : Int} {x2 : Int} {x3 : Int} {x4 : Int} {x5 : Int} {x6 : Int} {x8 : Int} {s0 : Int} {s1 : Int} (k_x0 : gK (xG X) x0 = 6) (r_x1 : in32 x1) (r_x2 : in32 x2) (r_x3 : in32 x3) (r_x4 : in32 x4) (r_x5 : in32 x5) (r_x6 : in32 x6) (r_x8 : in32 x8) (r_s0 : in32 s0) (r_s1 : in32 s1) {m0 : qM} (hR_m0 : qR (xG X) m0)
    (h : f_X5_idleStep_97 N (xG X) k28 x0 x1 x2 x3 x4 x5 x6 x8 s0 s1 m0 = some (r, nu)) : qN X 10 97 [(0, .ref x0), (1, .int (iZ x1)), (2, .int (iZ x2)), (3, .int (iZ x3)), (4, .int (iZ x4)), (5, .int (iZ x5)), (6, .int (iZ x6)), (8, .int (iZ x8))] [.int (iZ s1), .int (iZ s0)] m0 := by
  have hT := hX.T
  unfold f_X5_idleStep_97 at h
  obtain ⟨v1, e_v1, r_v1, h⟩ := ckI_e h
  refine qn_iadd hX (pc := 97) dX5_idleStep_97 e_v1 ?_
  refine qn_istore hX (pc := 98) (ls' := [(7, .int (iZ v1)), (0, .ref x0), (1, .int (iZ x1)), (2, .int (iZ x2)), (3, .int (iZ x3)), (4, .int (iZ x4)), (5, .int (iZ x5)), (6, .int (iZ x6)), (8, .int (iZ x8))]) dX5_idleStep_98 rfl rfl ?_
  obtain ⟨v2, e_v2, r_v2, h⟩ := ckI_e h
  refine qn_iinc hX (pc := 100) (ls' := [(8, .int (iZ v2)), (7, .int (iZ v1)), (0, .ref x0), (1, .int (iZ x1)), (2, .int (iZ x2)), (3, .int (iZ x3)), (4, .int (iZ x4)), (5, .int (iZ x5)), (6, .int (iZ x6))]) dX5_idleStep_100 8 rfl e_v2 rfl rfl ?_
  refine qn_goto hX (pc := 103) 28 dX5_idleStep_103 (by decide) ?_
  refine qn_sub (ls' := [(0, .ref x0), (1, .int (iZ x1)), (2, .int (iZ x2)), (3, .int (iZ x3)), (4, .int (iZ x4)), (5, .int (iZ x5)), (6, .int (iZ x6)), (7, .int (iZ v1)), (8, .int (iZ v2))]) [2, 3, 4, 5, 6, 7, 8, 1, 0] rfl ?_
  exact hk28 x0 x1 x2 x3 x4 x5 x6 v1 v2 m0 k_x0 r_x1 r_x2 r_x3 r_x4 r_x5 r_x6 r_v1 r_v2 hR_m0 h
set_option maxHeartbeats 4000000 in
set_option maxRecDepth 20000 in
theorem w_X5_idleStep_75 {X : qB} {N : Nat} (hX : qOk X cX5_idleStep RX5 10 (some .int) wsX5_idleStep 1 24) {r : Int} {nu : qM} (hE : xr X = some (.int (iZ r)) ∧ (in32 r → xΦ X) ∧ xμ X = nu) {k28 : (Nat → Int → Int → Int → Int → Int → Int → Int → Int → qM → Option (Int × qM))} (hk28 : ∀ (x0 : Nat) (x1 : Int) (x2 : Int) (x3 : Int) (x4 : Int) (x5 : Int) (x6 : Int) (x7 : Int) (x8 : Int) (m0 : qM), gK (xG X) x0 = 6 → in32 x1 → in32 x2 → in32 x3 → in32 x4 → in32 x5 → in32 x6 → in32 x7 → in32 x8 → qR (xG X) m0 → k28 x0 x1 x2 x3 x4 x5 x6 x7 x8 m0 = some (r, nu) → qN X 10 28 [(0, .ref x0), (1, .int (iZ x1)), (2, .int (iZ x2)), (3, .int (iZ x3)), (4, .int (iZ x4)), (5, .int (iZ x5)), (6, .int (iZ x6)), (7, .int (iZ x7)), (8, .int (iZ x8))] [] m0)
    {x0 : Nat} {x1 : Int} {x2 : Int} {x3 : Int} {x4 : Int} {x5 : Int} {x7 : Int} {x8 : Int} {s0 : Int} {s1 : Int} (k_x0 : gK (xG X) x0 = 6) (r_x1 : in32 x1) (r_x2 : in32 x2) (r_x3 : in32 x3) (r_x4 : in32 x4) (r_x5 : in32 x5) (r_x7 : in32 x7) (r_x8 : in32 x8) (r_s0 : in32 s0) (r_s1 : in32 s1) {m0 : qM} (hR_m0 : qR (xG X) m0)
    (h : f_X5_idleStep_75 N (xG X) k28 x0 x1 x2 x3 x4 x5 x7 x8 s0 s1 m0 = some (r, nu)) : qN X 10 75 [(0, .ref x0), (1, .int (iZ x1)), (2, .int (iZ x2)), (3, .int (iZ x3)), (4, .int (iZ x4)), (5, .int (iZ x5)), (7, .int (iZ x7)), (8, .int (iZ x8))] [.int (iZ s1), .int (iZ s0)] m0 := by
  have hT := hX.T
  unfold f_X5_idleStep_75 at h
  obtain ⟨v1, e_v1, r_v1, h⟩ := ckI_e h
  refine qn_iadd hX (pc := 75) dX5_idleStep_75 e_v1 ?_
  refine qn_istore hX (pc := 76) (ls' := [(6, .int (iZ v1)), (0, .ref x0), (1, .int (iZ x1)), (2, .int (iZ x2)), (3, .int (iZ x3)), (4, .int (iZ x4)), (5, .int (iZ x5)), (7, .int (iZ x7)), (8, .int (iZ x8))]) dX5_idleStep_76 rfl rfl ?_
  refine qn_iload hX (pc := 78) dX5_idleStep_78 7 rfl ?_
  refine qn_iload hX (pc := 80) dX5_idleStep_80 8 rfl ?_
  refine qn_iload_n hX (pc := 82) dX5_idleStep_82 2 rfl rfl ?_
  refine qn_icmp_le hX (pc := 83) r_x8 r_x1 96 dX5_idleStep_83 (by decide) (fun c2 => ?_) (fun c2 => ?_)
  · have h := ite_f h c2
    refine qn_iconst hX (pc := 96) dX5_idleStep_96 ?_
    refine qn_sub (ls' := [(0, .ref x0), (1, .int (iZ x1)), (2, .int (iZ x2)), (3, .int (iZ x3)), (4, .int (iZ x4)), (5, .int (iZ x5)), (6, .int (iZ v1)), (8, .int (iZ x8))]) [1, 2, 3, 4, 5, 6, 0, 8] rfl ?_
    exact w_X5_idleStep_97 hX hE hk28 k_x0 r_x1 r_x2 r_x3 r_x4 r_x5 r_v1 r_x8 r_x7 (by decide) hR_m0 h
  · have h := ite_t h c2
    refine qn_aload_n hX (pc := 86) dX5_idleStep_86 1 rfl rfl ?_
    refine qn_getR hX (pc := 87) fd_X5_idleStep_27 dX5_idleStep_87 k_x0 ?_
    refine qn_iload hX (pc := 90) dX5_idleStep_90 8 rfl ?_
    obtain ⟨v3, e_v3, b_v3, h⟩ := rdA_e h
    have r_v3 : in32 v3 := by rw [e_v3]; exact hR_m0.a (n := 68) _ (qr_504 hT k_x0) (by decide)
    refine qn_iald hX (pc := 92) 68 dX5_idleStep_92 (qr_504 hT k_x0) (by decide) b_v3 e_v3 ?_
    refine qn_goto hX (pc := 93) 97 dX5_idleStep_93 (by decide) ?_
    refine qn_sub (ls' := [(0, .ref x0), (1, .int (iZ x1)), (2, .int (iZ x2)), (3, .int (iZ x3)), (4, .int (iZ x4)), (5, .int (iZ x5)), (6, .int (iZ v1)), (8, .int (iZ x8))]) [1, 2, 3, 4, 5, 6, 0, 8] rfl ?_
    exact w_X5_idleStep_97 hX hE hk28 k_x0 r_x1 r_x2 r_x3 r_x4 r_x5 r_v1 r_x8 r_x7 r_v3 hR_m0 h
set_option maxHeartbeats 4000000 in
set_option maxRecDepth 20000 in
theorem w_X5_idleStep_28 {X : qB} {N : Nat} (hX : qOk X cX5_idleStep RX5 10 (some .int) wsX5_idleStep 1 24) {r : Int} {nu : qM} (hE : xr X = some (.int (iZ r)) ∧ (in32 r → xΦ X) ∧ xμ X = nu) {k28 : (Nat → Int → Int → Int → Int → Int → Int → Int → Int → qM → Option (Int × qM))} (hk28 : ∀ (x0 : Nat) (x1 : Int) (x2 : Int) (x3 : Int) (x4 : Int) (x5 : Int) (x6 : Int) (x7 : Int) (x8 : Int) (m0 : qM), gK (xG X) x0 = 6 → in32 x1 → in32 x2 → in32 x3 → in32 x4 → in32 x5 → in32 x6 → in32 x7 → in32 x8 → qR (xG X) m0 → k28 x0 x1 x2 x3 x4 x5 x6 x7 x8 m0 = some (r, nu) → qN X 10 28 [(0, .ref x0), (1, .int (iZ x1)), (2, .int (iZ x2)), (3, .int (iZ x3)), (4, .int (iZ x4)), (5, .int (iZ x5)), (6, .int (iZ x6)), (7, .int (iZ x7)), (8, .int (iZ x8))] [] m0)
    {x0 : Nat} {x1 : Int} {x2 : Int} {x3 : Int} {x4 : Int} {x5 : Int} {x6 : Int} {x7 : Int} {x8 : Int} (k_x0 : gK (xG X) x0 = 6) (r_x1 : in32 x1) (r_x2 : in32 x2) (r_x3 : in32 x3) (r_x4 : in32 x4) (r_x5 : in32 x5) (r_x6 : in32 x6) (r_x7 : in32 x7) (r_x8 : in32 x8) {m0 : qM} (hR_m0 : qR (xG X) m0)
    (h : f_X5_idleStep_28 N (xG X) k28 x0 x1 x2 x3 x4 x5 x6 x7 x8 m0 = some (r, nu)) : qN X 10 28 [(0, .ref x0), (1, .int (iZ x1)), (2, .int (iZ x2)), (3, .int (iZ x3)), (4, .int (iZ x4)), (5, .int (iZ x5)), (6, .int (iZ x6)), (7, .int (iZ x7)), (8, .int (iZ x8))] [] m0 := by
  have hT := hX.T
  unfold f_X5_idleStep_28 at h
  refine qn_iload hX (pc := 28) dX5_idleStep_28 8 rfl ?_
  refine qn_aload_n hX (pc := 30) dX5_idleStep_30 0 rfl rfl ?_
  refine qn_getI hX (pc := 31) fd_X5_idleStep_33 dX5_idleStep_31 k_x0 ?_
  refine qn_icmp_ge hX (pc := 34) r_x8 (hR_m0.i 506 _ rfl) 106 dX5_idleStep_34 (by decide) (fun c1 => ?_) (fun c1 => ?_)
  · have h := ite_f h c1
    refine qn_iload hX (pc := 106) dX5_idleStep_106 6 rfl ?_
    refine qn_iload_n hX (pc := 108) dX5_idleStep_108 2 rfl rfl ?_
    refine qn_iload hX (pc := 109) dX5_idleStep_109 7 rfl ?_
    obtain ⟨v2, e_v2, r_v2, h⟩ := ckI_e h
    refine qn_isub hX (pc := 111) dX5_idleStep_111 e_v2 ?_
    obtain ⟨v3, e_v3, r_v3, h⟩ := ckI_e h
    refine qn_isub hX (pc := 112) dX5_idleStep_112 e_v3 ?_
    refine qn_istore hX (pc := 113) (ls' := [(8, .int (iZ v3)), (0, .ref x0), (1, .int (iZ x1)), (2, .int (iZ x2)), (3, .int (iZ x3)), (4, .int (iZ x4)), (5, .int (iZ x5)), (6, .int (iZ x6)), (7, .int (iZ x7))]) dX5_idleStep_113 rfl rfl ?_
    refine qn_iload_n hX (pc := 115) dX5_idleStep_115 4 rfl rfl ?_
    refine qn_iconst hX (pc := 116) dX5_idleStep_116 ?_
    refine qn_icmp_gt hX (pc := 117) r_x3 (by decide) 129 dX5_idleStep_117 (by decide) (fun c4 => ?_) (fun c4 => ?_)
    · have h := ite_t h c4
      refine qn_iload hX (pc := 129) dX5_idleStep_129 0 rfl ?_
      exact qn_iret hX (pc := 131) dX5_idleStep_131 hE hR_m0 r_v3 (Option.some.inj h)
    · have h := ite_f h c4
      refine qn_aload_n hX (pc := 120) dX5_idleStep_120 1 rfl rfl ?_
      refine qn_getR hX (pc := 121) fd_X5_idleStep_17 dX5_idleStep_121 k_x0 ?_
      refine qn_iload_n hX (pc := 124) dX5_idleStep_124 2 rfl rfl ?_
      obtain ⟨v5, e_v5, b_v5, h⟩ := rdA_e h
      have r_v5 : in32 v5 := by rw [e_v5]; exact hR_m0.a (n := 68) _ (qr_501 hT k_x0) (by decide)
      refine qn_iald hX (pc := 125) 68 dX5_idleStep_125 (qr_501 hT k_x0) (by decide) b_v5 e_v5 ?_
      refine qn_if_gt hX (pc := 126) r_v5 132 dX5_idleStep_126 (by decide) (fun c6 => ?_) (fun c6 => ?_)
      · have h := ite_t h c6
        refine qn_iload hX (pc := 132) dX5_idleStep_132 5 rfl ?_
        refine qn_iload hX (pc := 134) dX5_idleStep_134 6 rfl ?_
        obtain ⟨v7, e_v7, r_v7, h⟩ := ckI_e h
        refine qn_imul hX (pc := 136) dX5_idleStep_136 e_v7 ?_
        refine qn_aload_n hX (pc := 137) dX5_idleStep_137 1 rfl rfl ?_
        refine qn_getR hX (pc := 138) fd_X5_idleStep_17 dX5_idleStep_138 k_x0 ?_
        refine qn_iload_n hX (pc := 141) dX5_idleStep_141 2 rfl rfl ?_
        obtain ⟨v8, e_v8, b_v8, h⟩ := rdA_e h
        have r_v8 : in32 v8 := by rw [e_v8]; exact hR_m0.a (n := 68) _ (qr_501 hT k_x0) (by decide)
        refine qn_iald hX (pc := 142) 68 dX5_idleStep_142 (qr_501 hT k_x0) (by decide) b_v8 e_v8 ?_
        obtain ⟨v9, e_v9, r_v9, h⟩ := ckI_e h
        refine qn_iadd hX (pc := 143) dX5_idleStep_143 e_v9 ?_
        refine qn_iconst hX (pc := 144) dX5_idleStep_144 ?_
        obtain ⟨v10, e_v10, r_v10, h⟩ := ckI_e h
        refine qn_isub hX (pc := 145) dX5_idleStep_145 e_v10 ?_
        refine qn_aload_n hX (pc := 146) dX5_idleStep_146 1 rfl rfl ?_
        refine qn_getR hX (pc := 147) fd_X5_idleStep_17 dX5_idleStep_147 k_x0 ?_
        refine qn_iload_n hX (pc := 150) dX5_idleStep_150 2 rfl rfl ?_
        obtain ⟨v11, e_v11, b_v11, h⟩ := rdA_e h
        have r_v11 : in32 v11 := by rw [e_v11]; exact hR_m0.a (n := 68) _ (qr_501 hT k_x0) (by decide)
        refine qn_iald hX (pc := 151) 68 dX5_idleStep_151 (qr_501 hT k_x0) (by decide) b_v11 e_v11 ?_
        obtain ⟨n_v12, h⟩ := ckD_e h
        obtain ⟨v12, e_v12, r_v12, h⟩ := ckI_e h
        refine qn_idiv hX (pc := 152) r_v10 r_v11 n_v12 dX5_idleStep_152 e_v12 ?_
        refine qn_istore hX (pc := 153) (ls' := [(9, .int (iZ v12)), (8, .int (iZ v3)), (0, .ref x0), (1, .int (iZ x1)), (2, .int (iZ x2)), (3, .int (iZ x3)), (4, .int (iZ x4)), (5, .int (iZ x5)), (6, .int (iZ x6)), (7, .int (iZ x7))]) dX5_idleStep_153 rfl rfl ?_
        refine qn_iload hX (pc := 155) dX5_idleStep_155 1 rfl ?_
        refine qn_iload hX (pc := 157) dX5_idleStep_157 0 rfl ?_
        refine qn_iload_n hX (pc := 159) dX5_idleStep_159 4 rfl rfl ?_
        obtain ⟨v13, e_v13, r_v13, h⟩ := ckI_e h
        refine qn_isub hX (pc := 160) dX5_idleStep_160 e_v13 ?_
        obtain ⟨v14, e_v14, h⟩ := kp_e h
        have r_v14 : in32 v14 := by rw [e_v14]; exact in32_min r_v3 r_v13
        refine qn_min hX (pc := 161) r_v3 r_v13 dX5_idleStep_161 (by decide +kernel) (by decide +kernel) (by decide +kernel) (by decide +kernel) ⟨rfl, rfl⟩ e_v14 ?_
        exact qn_iret hX (pc := 164) dX5_idleStep_164 hE hR_m0 r_v14 (Option.some.inj h)
      · have h := ite_f h c6
        refine qn_iload hX (pc := 129) dX5_idleStep_129 0 rfl ?_
        exact qn_iret hX (pc := 131) dX5_idleStep_131 hE hR_m0 r_v3 (Option.some.inj h)
  · have h := ite_t h c1
    refine qn_aload_n hX (pc := 37) dX5_idleStep_37 0 rfl rfl ?_
    refine qn_getR hX (pc := 38) fd_X5_idleStep_17 dX5_idleStep_38 k_x0 ?_
    refine qn_iload hX (pc := 41) dX5_idleStep_41 8 rfl ?_
    obtain ⟨v15, e_v15, b_v15, h⟩ := rdA_e h
    have r_v15 : in32 v15 := by rw [e_v15]; exact hR_m0.a (n := 68) _ (qr_501 hT k_x0) (by decide)
    refine qn_iald hX (pc := 43) 68 dX5_idleStep_43 (qr_501 hT k_x0) (by decide) b_v15 e_v15 ?_
    refine qn_aload_n hX (pc := 44) dX5_idleStep_44 0 rfl rfl ?_
    refine qn_getR hX (pc := 45) fd_X5_idleStep_24 dX5_idleStep_45 k_x0 ?_
    refine qn_iload hX (pc := 48) dX5_idleStep_48 8 rfl ?_
    obtain ⟨v16, e_v16, b_v16, h⟩ := rdA_e h
    have r_v16 : in32 v16 := by rw [e_v16]; exact hR_m0.a (n := 68) _ (qr_503 hT k_x0) (by decide)
    refine qn_iald hX (pc := 50) 68 dX5_idleStep_50 (qr_503 hT k_x0) (by decide) b_v16 e_v16 ?_
    obtain ⟨v17, e_v17, r_v17, h⟩ := ckI_e h
    refine qn_isub hX (pc := 51) dX5_idleStep_51 e_v17 ?_
    refine qn_istore hX (pc := 52) (ls' := [(9, .int (iZ v17)), (0, .ref x0), (1, .int (iZ x1)), (2, .int (iZ x2)), (3, .int (iZ x3)), (4, .int (iZ x4)), (5, .int (iZ x5)), (6, .int (iZ x6)), (7, .int (iZ x7)), (8, .int (iZ x8))]) dX5_idleStep_52 rfl rfl ?_
    refine qn_iload hX (pc := 54) dX5_idleStep_54 6 rfl ?_
    refine qn_iload hX (pc := 56) dX5_idleStep_56 0 rfl ?_
    obtain ⟨v18, e_v18, r_v18, h⟩ := ckI_e h
    refine qn_iadd hX (pc := 58) dX5_idleStep_58 e_v18 ?_
    refine qn_istore hX (pc := 59) (ls' := [(5, .int (iZ v18)), (9, .int (iZ v17)), (0, .ref x0), (1, .int (iZ x1)), (2, .int (iZ x2)), (3, .int (iZ x3)), (4, .int (iZ x4)), (6, .int (iZ x6)), (7, .int (iZ x7)), (8, .int (iZ x8))]) dX5_idleStep_59 rfl rfl ?_
    refine qn_iload hX (pc := 61) dX5_idleStep_61 7 rfl ?_
    refine qn_iload hX (pc := 63) dX5_idleStep_63 9 rfl ?_
    refine qn_iload_n hX (pc := 65) dX5_idleStep_65 3 rfl rfl ?_
    refine qn_icmp_ge hX (pc := 66) r_x8 r_x1 74 dX5_idleStep_66 (by decide) (fun c19 => ?_) (fun c19 => ?_)
    · have h := ite_f h c19
      refine qn_iconst hX (pc := 74) dX5_idleStep_74 ?_
      refine qn_sub (ls' := [(0, .ref x0), (1, .int (iZ x1)), (2, .int (iZ x2)), (3, .int (iZ x3)), (4, .int (iZ x4)), (5, .int (iZ v18)), (7, .int (iZ x7)), (8, .int (iZ x8))]) [2, 3, 4, 5, 6, 0, 8, 9] rfl ?_
      exact w_X5_idleStep_75 hX hE hk28 k_x0 r_x1 r_x2 r_x3 r_x4 r_v18 r_x7 r_x8 r_x6 (by decide) hR_m0 h
    · have h := ite_t h c19
      refine qn_iload hX (pc := 69) dX5_idleStep_69 1 rfl ?_
      refine qn_goto hX (pc := 71) 75 dX5_idleStep_71 (by decide) ?_
      refine qn_sub (ls' := [(0, .ref x0), (1, .int (iZ x1)), (2, .int (iZ x2)), (3, .int (iZ x3)), (4, .int (iZ x4)), (5, .int (iZ v18)), (7, .int (iZ x7)), (8, .int (iZ x8))]) [2, 3, 4, 5, 6, 0, 8, 9] rfl ?_
      exact w_X5_idleStep_75 hX hE hk28 k_x0 r_x1 r_x2 r_x3 r_x4 r_v18 r_x7 r_x8 r_x6 r_v17 hR_m0 h
set_option maxHeartbeats 4000000 in
set_option maxRecDepth 20000 in
theorem w_X5_idleStep_L28 {X : qB} {N : Nat} (hX : qOk X cX5_idleStep RX5 10 (some .int) wsX5_idleStep 1 24) {r : Int} {nu : qM} (hE : xr X = some (.int (iZ r)) ∧ (in32 r → xΦ X) ∧ xμ X = nu) 
    {x0 : Nat} {x1 : Int} {x2 : Int} {x3 : Int} {x4 : Int} {x5 : Int} {x6 : Int} {x7 : Int} {x8 : Int} (k_x0 : gK (xG X) x0 = 6) (r_x1 : in32 x1) (r_x2 : in32 x2) (r_x3 : in32 x3) (r_x4 : in32 x4) (r_x5 : in32 x5) (r_x6 : in32 x6) (r_x7 : in32 x7) (r_x8 : in32 x8) {m0 : qM} (hR_m0 : qR (xG X) m0)
    (h : f_X5_idleStep_L28 N (xG X)  x0 x1 x2 x3 x4 x5 x6 x7 x8 m0 = some (r, nu)) : qN X 10 28 [(0, .ref x0), (1, .int (iZ x1)), (2, .int (iZ x2)), (3, .int (iZ x3)), (4, .int (iZ x4)), (5, .int (iZ x5)), (6, .int (iZ x6)), (7, .int (iZ x7)), (8, .int (iZ x8))] [] m0 := by
  unfold f_X5_idleStep_L28 at h
  exact qLoop_w (σ := Nat × Int × Int × Int × Int × Int × Int × Int × Int × qM) (P := fun p => gK (xG X) p.1 = 6 ∧ in32 p.2.1 ∧ in32 p.2.2.1 ∧ in32 p.2.2.2.1 ∧ in32 p.2.2.2.2.1 ∧ in32 p.2.2.2.2.2.1 ∧ in32 p.2.2.2.2.2.2.1 ∧ in32 p.2.2.2.2.2.2.2.1 ∧ in32 p.2.2.2.2.2.2.2.2.1 ∧ qR (xG X) p.2.2.2.2.2.2.2.2.2) (Q := fun p => qN X 10 28 [(0, .ref p.1), (1, .int (iZ p.2.1)), (2, .int (iZ p.2.2.1)), (3, .int (iZ p.2.2.2.1)), (4, .int (iZ p.2.2.2.2.1)), (5, .int (iZ p.2.2.2.2.2.1)), (6, .int (iZ p.2.2.2.2.2.2.1)), (7, .int (iZ p.2.2.2.2.2.2.2.1)), (8, .int (iZ p.2.2.2.2.2.2.2.2.1))] [] p.2.2.2.2.2.2.2.2.2) (fun k hrec p hp hh => w_X5_idleStep_28 hX hE (fun x0 x1 x2 x3 x4 x5 x6 x7 x8 m0 q0 q1 q2 q3 q4 q5 q6 q7 q8 hRm hh => hrec (x0, x1, x2, x3, x4, x5, x6, x7, x8, m0) ⟨q0, q1, q2, q3, q4, q5, q6, q7, q8, hRm⟩ hh) hp.1 hp.2.1 hp.2.2.1 hp.2.2.2.1 hp.2.2.2.2.1 hp.2.2.2.2.2.1 hp.2.2.2.2.2.2.1 hp.2.2.2.2.2.2.2.1 hp.2.2.2.2.2.2.2.2.1 hp.2.2.2.2.2.2.2.2.2 hh) N (x0, x1, x2, x3, x4, x5, x6, x7, x8, m0) ⟨k_x0, r_x1, r_x2, r_x3, r_x4, r_x5, r_x6, r_x7, r_x8, hR_m0⟩ h
set_option maxHeartbeats 4000000 in
set_option maxRecDepth 20000 in
theorem w_X5_idleStep {X : qB} {N : Nat} (hX : qOk X cX5_idleStep RX5 10 (some .int) wsX5_idleStep 1 24) {r : Int} {nu : qM} (hE : xr X = some (.int (iZ r)) ∧ (in32 r → xΦ X) ∧ xμ X = nu) 
    {x0 : Nat} {x1 : Int} {x2 : Int} {x3 : Int} {x4 : Int} (k_x0 : gK (xG X) x0 = 6) (r_x1 : in32 x1) (r_x2 : in32 x2) (r_x3 : in32 x3) (r_x4 : in32 x4) {m0 : qM} (hR_m0 : qR (xG X) m0)
    (h : f_X5_idleStep N (xG X)  x0 x1 x2 x3 x4 m0 = some (r, nu)) : qN X 10 0 [(0, .ref x0), (1, .int (iZ x1)), (2, .int (iZ x2)), (3, .int (iZ x3)), (4, .int (iZ x4))] [] m0 := by
  have hT := hX.T
  unfold f_X5_idleStep at h
  refine qn_iconst hX (pc := 0) dX5_idleStep_0 ?_
  refine qn_istore hX (pc := 1) (ls' := [(5, .int (iZ 0)), (0, .ref x0), (1, .int (iZ x1)), (2, .int (iZ x2)), (3, .int (iZ x3)), (4, .int (iZ x4))]) dX5_idleStep_1 rfl rfl ?_
  refine qn_iload_n hX (pc := 3) dX5_idleStep_3 4 rfl rfl ?_
  refine qn_aload_n hX (pc := 4) dX5_idleStep_4 1 rfl rfl ?_
  refine qn_getR hX (pc := 5) fd_X5_idleStep_17 dX5_idleStep_5 k_x0 ?_
  refine qn_iload_n hX (pc := 8) dX5_idleStep_8 2 rfl rfl ?_
  obtain ⟨v1, e_v1, b_v1, h⟩ := rdA_e h
  have r_v1 : in32 v1 := by rw [e_v1]; exact hR_m0.a (n := 68) _ (qr_501 hT k_x0) (by decide)
  refine qn_iald hX (pc := 9) 68 dX5_idleStep_9 (qr_501 hT k_x0) (by decide) b_v1 e_v1 ?_
  refine qn_aload_n hX (pc := 10) dX5_idleStep_10 1 rfl rfl ?_
  refine qn_getR hX (pc := 11) fd_X5_idleStep_24 dX5_idleStep_11 k_x0 ?_
  refine qn_iload_n hX (pc := 14) dX5_idleStep_14 2 rfl rfl ?_
  obtain ⟨v2, e_v2, b_v2, h⟩ := rdA_e h
  have r_v2 : in32 v2 := by rw [e_v2]; exact hR_m0.a (n := 68) _ (qr_503 hT k_x0) (by decide)
  refine qn_iald hX (pc := 15) 68 dX5_idleStep_15 (qr_503 hT k_x0) (by decide) b_v2 e_v2 ?_
  obtain ⟨v3, e_v3, r_v3, h⟩ := ckI_e h
  refine qn_isub hX (pc := 16) dX5_idleStep_16 e_v3 ?_
  obtain ⟨v4, e_v4, h⟩ := kp_e h
  have r_v4 : in32 v4 := by rw [e_v4]; exact in32_min r_x3 r_v3
  refine qn_min hX (pc := 17) r_x3 r_v3 dX5_idleStep_17 (by decide +kernel) (by decide +kernel) (by decide +kernel) (by decide +kernel) ⟨rfl, rfl⟩ e_v4 ?_
  refine qn_istore hX (pc := 20) (ls' := [(6, .int (iZ v4)), (5, .int (iZ 0)), (0, .ref x0), (1, .int (iZ x1)), (2, .int (iZ x2)), (3, .int (iZ x3)), (4, .int (iZ x4))]) dX5_idleStep_20 rfl rfl ?_
  refine qn_iconst hX (pc := 22) dX5_idleStep_22 ?_
  refine qn_istore hX (pc := 23) (ls' := [(7, .int (iZ 0)), (6, .int (iZ v4)), (5, .int (iZ 0)), (0, .ref x0), (1, .int (iZ x1)), (2, .int (iZ x2)), (3, .int (iZ x3)), (4, .int (iZ x4))]) dX5_idleStep_23 rfl rfl ?_
  refine qn_iconst hX (pc := 25) dX5_idleStep_25 ?_
  refine qn_istore hX (pc := 26) (ls' := [(8, .int (iZ 0)), (7, .int (iZ 0)), (6, .int (iZ v4)), (5, .int (iZ 0)), (0, .ref x0), (1, .int (iZ x1)), (2, .int (iZ x2)), (3, .int (iZ x3)), (4, .int (iZ x4))]) dX5_idleStep_26 rfl rfl ?_
  refine qn_sub (ls' := [(0, .ref x0), (1, .int (iZ x1)), (2, .int (iZ x2)), (3, .int (iZ x3)), (4, .int (iZ x4)), (5, .int (iZ 0)), (6, .int (iZ v4)), (7, .int (iZ 0)), (8, .int (iZ 0))]) [4, 5, 6, 7, 8, 3, 2, 1, 0] rfl ?_
  exact w_X5_idleStep_L28 hX hE  k_x0 r_x1 r_x2 r_x3 r_x4 (by decide) r_v4 (by decide) (by decide) hR_m0 h
theorem k_X5_idleStep (l : Launch) {G : qG} (hT : qT G) {N : Nat} {x0 : Nat} {x1 : Int} {x2 : Int} {x3 : Int} {x4 : Int} (k_x0 : gK G x0 = 6) (r_x1 : in32 x1) (r_x2 : in32 x2) (r_x3 : in32 x3) (r_x4 : in32 x4) {m0 : qM} {r : Int} {nu : qM} (h : f_X5_idleStep N G x0 x1 x2 x3 x4 m0 = some (r, nu)) : qC l yX5_idleStep wsX5_idleStep 1 24 G [.ref x0, .int (iZ x1), .int (iZ x2), .int (iZ x3), .int (iZ x4)] m0 (some (.int (iZ r))) (in32 r) nu := by
  refine qn_start (hy := by decide) hT (hw := rfl) (hn := Nat.le_of_ble_eq_true rfl) ?_
  intro X h1 h2 h3 h4 hX hR
  subst h4
  exact w_X5_idleStep hX ⟨h1, fun q => h2 ▸ q, h3⟩ k_x0 r_x1 r_x2 r_x3 r_x4 hR h
theorem dd_X5_idleStep : yX5_idleStep.cls = RX5 ∧ yX5_idleStep.cls ≠ "java/lang/invoke/MethodHandle" ∧ yX5_idleStep.cls ≠ "java/lang/invoke/VarHandle" ∧ (parseMethodDescriptor yX5_idleStep.desc).map (fun d => d.parameters.length) = some 4 := by decide +kernel
-- ProRataMarket$Sharing.partAt
theorem hi_X5_partAt_5 : ∀ w ∈ wsX50, w ∈ wsX5_partAt := fun w h => List.mem_cons_of_mem _ (List.mem_append_right _ h)
theorem fd_X5_partAt_24 : qFd RX5 wsX5_partAt 24 5 3 1 503 := ⟨RX5, TX5, 8, _, rfl, hi_X5_partAt_5, by decide, (by decide +kernel : Cond.fieldLink RX5 24 (TX5 3).1 (TX5 3).2.1 (TX5 3).2.2.1 ∈ wsX5_partAt), rfl, rfl, by decide⟩
theorem fd_X5_partAt_27 : qFd RX5 wsX5_partAt 27 5 4 1 504 := ⟨RX5, TX5, 8, _, rfl, hi_X5_partAt_5, by decide, (by decide +kernel : Cond.fieldLink RX5 27 (TX5 4).1 (TX5 4).2.1 (TX5 4).2.2.1 ∈ wsX5_partAt), rfl, rfl, by decide⟩
theorem fd_X5_partAt_30 : qFd RX5 wsX5_partAt 30 5 5 1 505 := ⟨RX5, TX5, 8, _, rfl, hi_X5_partAt_5, by decide, (by decide +kernel : Cond.fieldLink RX5 30 (TX5 5).1 (TX5 5).2.1 (TX5 5).2.2.1 ∈ wsX5_partAt), rfl, rfl, by decide⟩
set_option maxHeartbeats 4000000 in
set_option maxRecDepth 20000 in
theorem w_X5_partAt {X : qB} {N : Nat} (hX : qOk X cX5_partAt RX5 3 (some .int) wsX5_partAt 0 0) {r : Int} {nu : qM} (hE : xr X = some (.int (iZ r)) ∧ (in32 r → xΦ X) ∧ xμ X = nu) 
    {x0 : Nat} {x1 : Int} {x2 : Int} (k_x0 : gK (xG X) x0 = 6) (r_x1 : in32 x1) (r_x2 : in32 x2) {m0 : qM} (hR_m0 : qR (xG X) m0)
    (h : f_X5_partAt N (xG X)  x0 x1 x2 m0 = some (r, nu)) : qN X 3 0 [(0, .ref x0), (1, .int (iZ x1)), (2, .int (iZ x2))] [] m0 := by
  have hT := hX.T
  unfold f_X5_partAt at h
  refine qn_iload_n hX (pc := 0) dX5_partAt_0 2 rfl rfl ?_
  by_cases c1 : x2 = 1
  · have h := ite_t h c1
    refine qn_tswIn hX (pc := 1) r_x2 28 dX5_partAt_1 1 c1 (by decide) rfl (by decide) ?_
    refine qn_aload_n hX (pc := 28) dX5_partAt_28 0 rfl rfl ?_
    refine qn_getR hX (pc := 29) fd_X5_partAt_24 dX5_partAt_29 k_x0 ?_
    refine qn_iload_n hX (pc := 32) dX5_partAt_32 1 rfl rfl ?_
    obtain ⟨v2, e_v2, b_v2, h⟩ := rdA_e h
    have r_v2 : in32 v2 := by rw [e_v2]; exact hR_m0.a (n := 68) _ (qr_503 hT k_x0) (by decide)
    refine qn_iald hX (pc := 33) 68 dX5_partAt_33 (qr_503 hT k_x0) (by decide) b_v2 e_v2 ?_
    exact qn_iret hX (pc := 34) dX5_partAt_34 hE hR_m0 r_v2 (Option.some.inj h)
  have h := ite_f h c1
  by_cases c3 : x2 = 2
  · have h := ite_t h c3
    refine qn_tswIn hX (pc := 1) r_x2 35 dX5_partAt_1 2 c3 (by decide) rfl (by decide) ?_
    refine qn_aload_n hX (pc := 35) dX5_partAt_35 0 rfl rfl ?_
    refine qn_getR hX (pc := 36) fd_X5_partAt_27 dX5_partAt_36 k_x0 ?_
    refine qn_iload_n hX (pc := 39) dX5_partAt_39 1 rfl rfl ?_
    obtain ⟨v4, e_v4, b_v4, h⟩ := rdA_e h
    have r_v4 : in32 v4 := by rw [e_v4]; exact hR_m0.a (n := 68) _ (qr_504 hT k_x0) (by decide)
    refine qn_iald hX (pc := 40) 68 dX5_partAt_40 (qr_504 hT k_x0) (by decide) b_v4 e_v4 ?_
    exact qn_iret hX (pc := 41) dX5_partAt_41 hE hR_m0 r_v4 (Option.some.inj h)
  have h := ite_f h c3
  by_cases c5 : x2 = 3
  · have h := ite_t h c5
    refine qn_tswIn hX (pc := 1) r_x2 42 dX5_partAt_1 3 c5 (by decide) rfl (by decide) ?_
    refine qn_aload_n hX (pc := 42) dX5_partAt_42 0 rfl rfl ?_
    refine qn_getR hX (pc := 43) fd_X5_partAt_30 dX5_partAt_43 k_x0 ?_
    refine qn_iload_n hX (pc := 46) dX5_partAt_46 1 rfl rfl ?_
    obtain ⟨v6, e_v6, b_v6, h⟩ := rdA_e h
    have r_v6 : in32 v6 := by rw [e_v6]; exact hR_m0.a (n := 68) _ (qr_505 hT k_x0) (by decide)
    refine qn_iald hX (pc := 47) 68 dX5_partAt_47 (qr_505 hT k_x0) (by decide) b_v6 e_v6 ?_
    exact qn_iret hX (pc := 48) dX5_partAt_48 hE hR_m0 r_v6 (Option.some.inj h)
  have h := ite_f h c5
  refine qn_tswOut hX (pc := 1) r_x2 49 dX5_partAt_1 (by omega) (by decide) ?_
  refine qn_aload_n hX (pc := 49) dX5_partAt_49 0 rfl rfl ?_
  refine qn_getR hX (pc := 50) fd_X5_partAt_24 dX5_partAt_50 k_x0 ?_
  refine qn_iload_n hX (pc := 53) dX5_partAt_53 1 rfl rfl ?_
  obtain ⟨v7, e_v7, b_v7, h⟩ := rdA_e h
  have r_v7 : in32 v7 := by rw [e_v7]; exact hR_m0.a (n := 68) _ (qr_503 hT k_x0) (by decide)
  refine qn_iald hX (pc := 54) 68 dX5_partAt_54 (qr_503 hT k_x0) (by decide) b_v7 e_v7 ?_
  refine qn_aload_n hX (pc := 55) dX5_partAt_55 0 rfl rfl ?_
  refine qn_getR hX (pc := 56) fd_X5_partAt_27 dX5_partAt_56 k_x0 ?_
  refine qn_iload_n hX (pc := 59) dX5_partAt_59 1 rfl rfl ?_
  obtain ⟨v8, e_v8, b_v8, h⟩ := rdA_e h
  have r_v8 : in32 v8 := by rw [e_v8]; exact hR_m0.a (n := 68) _ (qr_504 hT k_x0) (by decide)
  refine qn_iald hX (pc := 60) 68 dX5_partAt_60 (qr_504 hT k_x0) (by decide) b_v8 e_v8 ?_
  obtain ⟨v9, e_v9, r_v9, h⟩ := ckI_e h
  refine qn_iadd hX (pc := 61) dX5_partAt_61 e_v9 ?_
  refine qn_aload_n hX (pc := 62) dX5_partAt_62 0 rfl rfl ?_
  refine qn_getR hX (pc := 63) fd_X5_partAt_30 dX5_partAt_63 k_x0 ?_
  refine qn_iload_n hX (pc := 66) dX5_partAt_66 1 rfl rfl ?_
  obtain ⟨v10, e_v10, b_v10, h⟩ := rdA_e h
  have r_v10 : in32 v10 := by rw [e_v10]; exact hR_m0.a (n := 68) _ (qr_505 hT k_x0) (by decide)
  refine qn_iald hX (pc := 67) 68 dX5_partAt_67 (qr_505 hT k_x0) (by decide) b_v10 e_v10 ?_
  obtain ⟨v11, e_v11, r_v11, h⟩ := ckI_e h
  refine qn_iadd hX (pc := 68) dX5_partAt_68 e_v11 ?_
  exact qn_iret hX (pc := 69) dX5_partAt_69 hE hR_m0 r_v11 (Option.some.inj h)
theorem k_X5_partAt (l : Launch) {G : qG} (hT : qT G) {N : Nat} {x0 : Nat} {x1 : Int} {x2 : Int} (k_x0 : gK G x0 = 6) (r_x1 : in32 x1) (r_x2 : in32 x2) {m0 : qM} {r : Int} {nu : qM} (h : f_X5_partAt N G x0 x1 x2 m0 = some (r, nu)) : qC l yX5_partAt wsX5_partAt 0 0 G [.ref x0, .int (iZ x1), .int (iZ x2)] m0 (some (.int (iZ r))) (in32 r) nu := by
  refine qn_start (hy := by decide) hT (hw := rfl) (hn := Nat.le_of_ble_eq_true rfl) ?_
  intro X h1 h2 h3 h4 hX hR
  subst h4
  exact w_X5_partAt hX ⟨h1, fun q => h2 ▸ q, h3⟩ k_x0 r_x1 r_x2 hR h
theorem dd_X5_partAt : yX5_partAt.cls = RX5 ∧ yX5_partAt.cls ≠ "java/lang/invoke/MethodHandle" ∧ yX5_partAt.cls ≠ "java/lang/invoke/VarHandle" ∧ (parseMethodDescriptor yX5_partAt.desc).map (fun d => d.parameters.length) = some 2 := by decide +kernel
-- ProRataMarket$Sharing.leastTake
theorem hi_X5_leastTake_5 : ∀ w ∈ wsX50, w ∈ wsX5_leastTake := fun w h => List.mem_cons_of_mem _ (List.mem_append_right _ h)
theorem fd_X5_leastTake_37 : qFd RX5 wsX5_leastTake 37 5 7 0 507 := ⟨RX5, TX5, 8, _, rfl, hi_X5_leastTake_5, by decide, (by decide +kernel : Cond.fieldLink RX5 37 (TX5 7).1 (TX5 7).2.1 (TX5 7).2.2.1 ∈ wsX5_leastTake), rfl, rfl, by decide⟩
theorem fd_X5_leastTake_17 : qFd RX5 wsX5_leastTake 17 5 1 1 501 := ⟨RX5, TX5, 8, _, rfl, hi_X5_leastTake_5, by decide, (by decide +kernel : Cond.fieldLink RX5 17 (TX5 1).1 (TX5 1).2.1 (TX5 1).2.2.1 ∈ wsX5_leastTake), rfl, rfl, by decide⟩
theorem fd_X5_leastTake_21 : qFd RX5 wsX5_leastTake 21 5 2 1 502 := ⟨RX5, TX5, 8, _, rfl, hi_X5_leastTake_5, by decide, (by decide +kernel : Cond.fieldLink RX5 21 (TX5 2).1 (TX5 2).2.1 (TX5 2).2.2.1 ∈ wsX5_leastTake), rfl, rfl, by decide⟩
theorem fd_X5_leastTake_33 : qFd RX5 wsX5_leastTake 33 5 6 0 506 := ⟨RX5, TX5, 8, _, rfl, hi_X5_leastTake_5, by decide, (by decide +kernel : Cond.fieldLink RX5 33 (TX5 6).1 (TX5 6).2.1 (TX5 6).2.2.1 ∈ wsX5_leastTake), rfl, rfl, by decide⟩
theorem fd_X5_leastTake_13 : qFd RX5 wsX5_leastTake 13 5 0 1 500 := ⟨RX5, TX5, 8, _, rfl, hi_X5_leastTake_5, by decide, (by decide +kernel : Cond.fieldLink RX5 13 (TX5 0).1 (TX5 0).2.1 (TX5 0).2.2.1 ∈ wsX5_leastTake), rfl, rfl, by decide⟩
set_option maxHeartbeats 4000000 in
set_option maxRecDepth 20000 in
theorem w_X5_leastTake_98 {X : qB} {N : Nat} (hX : qOk X cX5_leastTake RX5 8 (some .int) wsX5_leastTake 2 53) {r : Int} {nu : qM} (hE : xr X = some (.int (iZ r)) ∧ (in32 r → xΦ X) ∧ xμ X = nu) {k98 : (Nat → Int → Int → Int → Int → Int → qM → Option (Int × qM))} (hk98 : ∀ (x0 : Nat) (x2 : Int) (x3 : Int) (x4 : Int) (x5 : Int) (x7 : Int) (m0 : qM), gK (xG X) x0 = 6 → in32 x2 → in32 x3 → in32 x4 → in32 x5 → in32 x7 → qR (xG X) m0 → k98 x0 x2 x3 x4 x5 x7 m0 = some (r, nu) → qN X 8 98 [(0, .ref x0), (2, .int (iZ x2)), (3, .int (iZ x3)), (4, .int (iZ x4)), (5, .int (iZ x5)), (7, .int (iZ x7))] [] m0)
    {x0 : Nat} {x2 : Int} {x3 : Int} {x4 : Int} {x5 : Int} {x7 : Int} (k_x0 : gK (xG X) x0 = 6) (r_x2 : in32 x2) (r_x3 : in32 x3) (r_x4 : in32 x4) (r_x5 : in32 x5) (r_x7 : in32 x7) {m0 : qM} (hR_m0 : qR (xG X) m0)
    (h : f_X5_leastTake_98 N (xG X) k98 x0 x2 x3 x4 x5 x7 m0 = some (r, nu)) : qN X 8 98 [(0, .ref x0), (2, .int (iZ x2)), (3, .int (iZ x3)), (4, .int (iZ x4)), (5, .int (iZ x5)), (7, .int (iZ x7))] [] m0 := by
  have hT := hX.T
  unfold f_X5_leastTake_98 at h
  refine qn_iload hX (pc := 98) dX5_leastTake_98 5 rfl ?_
  refine qn_aload_n hX (pc := 100) dX5_leastTake_100 0 rfl rfl ?_
  refine qn_getI hX (pc := 101) fd_X5_leastTake_37 dX5_leastTake_101 k_x0 ?_
  refine qn_icmp_ge hX (pc := 104) r_x7 (hR_m0.i 507 _ rfl) 157 dX5_leastTake_104 (by decide) (fun c1 => ?_) (fun c1 => ?_)
  · have h := ite_f h c1
    refine qn_aload_n hX (pc := 157) dX5_leastTake_157 0 rfl rfl ?_
    refine qn_getI hX (pc := 158) fd_X5_leastTake_37 dX5_leastTake_158 k_x0 ?_
    exact qn_iret hX (pc := 161) dX5_leastTake_161 hE hR_m0 (hR_m0.i 507 _ rfl) (Option.some.inj h)
  · have h := ite_t h c1
    refine qn_aload_n hX (pc := 107) dX5_leastTake_107 0 rfl rfl ?_
    refine qn_iload hX (pc := 108) dX5_leastTake_108 5 rfl ?_
    refine qn_iload_n hX (pc := 110) dX5_leastTake_110 2 rfl rfl ?_
    obtain ⟨m2, e_m2, h⟩ := kb_e h
    refine qn_callVv hX (pc := 111) [.int (iZ x7), .int (iZ x3)] [.int (iZ x3), .int (iZ x7)] 2 dX5_leastTake_111 gX5_leastTake_X5_deal rfl dd_X5_deal ⟨rfl, rfl⟩ rfl rfl (by decide) k_x0 rfl rfl hR_m0 (k_X5_deal (xl X) hT k_x0 r_x7 r_x3 e_m2) (fun r_v3 hR_m2 => ?_)
    refine qn_aload_n hX (pc := 114) dX5_leastTake_114 0 rfl rfl ?_
    refine qn_iload hX (pc := 115) dX5_leastTake_115 3 rfl ?_
    refine qn_iconst hX (pc := 117) dX5_leastTake_117 ?_
    obtain ⟨v5, m4, e_m4, h⟩ := kb2_e h
    refine qn_callVi hX (pc := 118) [.int (iZ x4), .int (iZ 0)] [.int (iZ 0), .int (iZ x4)] 2 dX5_leastTake_118 gX5_leastTake_X5_partAt rfl dd_X5_partAt ⟨rfl, rfl⟩ rfl rfl (by decide) k_x0 rfl rfl hR_m2 (k_X5_partAt (xl X) hT k_x0 r_x4 (by decide) e_m4) (fun r_v5 hR_m4 => ?_)
    refine qn_iload_n hX (pc := 121) dX5_leastTake_121 1 rfl rfl ?_
    refine qn_icmp_lt hX (pc := 122) r_v5 r_x2 128 dX5_leastTake_122 (by decide) (fun c6 => ?_) (fun c6 => ?_)
    · have h := ite_t h c6
      refine qn_iconst hX (pc := 128) dX5_leastTake_128 ?_
      refine qn_aload_n hX (pc := 129) dX5_leastTake_129 0 rfl rfl ?_
      refine qn_iload hX (pc := 130) dX5_leastTake_130 3 rfl ?_
      refine qn_iload hX (pc := 132) dX5_leastTake_132 5 rfl ?_
      refine qn_iload hX (pc := 134) dX5_leastTake_134 4 rfl ?_
      obtain ⟨v7, e_v7, r_v7, h⟩ := ckI_e h
      refine qn_isub hX (pc := 136) dX5_leastTake_136 e_v7 ?_
      refine qn_iload_n hX (pc := 137) dX5_leastTake_137 1 rfl rfl ?_
      refine qn_iload_n hX (pc := 138) dX5_leastTake_138 2 rfl rfl ?_
      obtain ⟨v9, m8, e_m8, h⟩ := kb2_e h
      refine qn_callVi hX (pc := 139) [.int (iZ x4), .int (iZ v7), .int (iZ x2), .int (iZ x3)] [.int (iZ x3), .int (iZ x2), .int (iZ v7), .int (iZ x4)] 4 dX5_leastTake_139 gX5_leastTake_X5_idleStep rfl dd_X5_idleStep ⟨rfl, rfl⟩ rfl rfl (by decide) k_x0 rfl rfl hR_m4 (k_X5_idleStep (xl X) hT k_x0 r_x4 r_v7 r_x2 r_x3 e_m8) (fun r_v9 hR_m8 => ?_)
      obtain ⟨v10, e_v10, h⟩ := kp_e h
      have r_v10 : in32 v10 := by rw [e_v10]; exact in32_max (by decide) r_v9
      refine qn_max hX (pc := 142) (by decide) r_v9 dX5_leastTake_142 (by decide +kernel) (by decide +kernel) (by decide +kernel) (by decide +kernel) ⟨rfl, rfl⟩ e_v10 ?_
      refine qn_istore hX (pc := 145) (ls' := [(6, .int (iZ v10)), (0, .ref x0), (2, .int (iZ x2)), (3, .int (iZ x3)), (4, .int (iZ x4)), (5, .int (iZ x5)), (7, .int (iZ x7))]) dX5_leastTake_145 rfl rfl ?_
      refine qn_iload hX (pc := 147) dX5_leastTake_147 6 rfl ?_
      refine qn_iload hX (pc := 149) dX5_leastTake_149 0 rfl ?_
      obtain ⟨v11, e_v11, r_v11, h⟩ := ckI_e h
      refine qn_iadd hX (pc := 151) dX5_leastTake_151 e_v11 ?_
      refine qn_istore hX (pc := 152) (ls' := [(7, .int (iZ v11)), (6, .int (iZ v10)), (0, .ref x0), (2, .int (iZ x2)), (3, .int (iZ x3)), (4, .int (iZ x4)), (5, .int (iZ x5))]) dX5_leastTake_152 rfl rfl ?_
      refine qn_goto hX (pc := 154) 98 dX5_leastTake_154 (by decide) ?_
      refine qn_sub (ls' := [(0, .ref x0), (2, .int (iZ x2)), (3, .int (iZ x3)), (4, .int (iZ x4)), (5, .int (iZ x5)), (7, .int (iZ v11))]) [2, 3, 4, 5, 6, 0] rfl ?_
      exact hk98 x0 x2 x3 x4 x5 v11 m8 k_x0 r_x2 r_x3 r_x4 r_x5 r_v11 hR_m8 h
    · have h := ite_f h c6
      refine qn_iload hX (pc := 125) dX5_leastTake_125 5 rfl ?_
      exact qn_iret hX (pc := 127) dX5_leastTake_127 hE hR_m4 r_x7 (Option.some.inj h)
set_option maxHeartbeats 4000000 in
set_option maxRecDepth 20000 in
theorem w_X5_leastTake_L98 {X : qB} {N : Nat} (hX : qOk X cX5_leastTake RX5 8 (some .int) wsX5_leastTake 2 53) {r : Int} {nu : qM} (hE : xr X = some (.int (iZ r)) ∧ (in32 r → xΦ X) ∧ xμ X = nu) 
    {x0 : Nat} {x2 : Int} {x3 : Int} {x4 : Int} {x5 : Int} {x7 : Int} (k_x0 : gK (xG X) x0 = 6) (r_x2 : in32 x2) (r_x3 : in32 x3) (r_x4 : in32 x4) (r_x5 : in32 x5) (r_x7 : in32 x7) {m0 : qM} (hR_m0 : qR (xG X) m0)
    (h : f_X5_leastTake_L98 N (xG X)  x0 x2 x3 x4 x5 x7 m0 = some (r, nu)) : qN X 8 98 [(0, .ref x0), (2, .int (iZ x2)), (3, .int (iZ x3)), (4, .int (iZ x4)), (5, .int (iZ x5)), (7, .int (iZ x7))] [] m0 := by
  unfold f_X5_leastTake_L98 at h
  exact qLoop_w (σ := Nat × Int × Int × Int × Int × Int × qM) (P := fun p => gK (xG X) p.1 = 6 ∧ in32 p.2.1 ∧ in32 p.2.2.1 ∧ in32 p.2.2.2.1 ∧ in32 p.2.2.2.2.1 ∧ in32 p.2.2.2.2.2.1 ∧ qR (xG X) p.2.2.2.2.2.2) (Q := fun p => qN X 8 98 [(0, .ref p.1), (2, .int (iZ p.2.1)), (3, .int (iZ p.2.2.1)), (4, .int (iZ p.2.2.2.1)), (5, .int (iZ p.2.2.2.2.1)), (7, .int (iZ p.2.2.2.2.2.1))] [] p.2.2.2.2.2.2) (fun k hrec p hp hh => w_X5_leastTake_98 hX hE (fun x0 x2 x3 x4 x5 x7 m0 q0 q1 q2 q3 q4 q5 hRm hh => hrec (x0, x2, x3, x4, x5, x7, m0) ⟨q0, q1, q2, q3, q4, q5, hRm⟩ hh) hp.1 hp.2.1 hp.2.2.1 hp.2.2.2.1 hp.2.2.2.2.1 hp.2.2.2.2.2.1 hp.2.2.2.2.2.2 hh) N (x0, x2, x3, x4, x5, x7, m0) ⟨k_x0, r_x2, r_x3, r_x4, r_x5, r_x7, hR_m0⟩ h
set_option maxHeartbeats 4000000 in
set_option maxRecDepth 20000 in
theorem w_X5_leastTake_36 {X : qB} {N : Nat} (hX : qOk X cX5_leastTake RX5 8 (some .int) wsX5_leastTake 2 53) {r : Int} {nu : qM} (hE : xr X = some (.int (iZ r)) ∧ (in32 r → xΦ X) ∧ xμ X = nu) {k9 : (Nat → Nat → Int → Int → Int → Int → Int → qM → Option (Int × qM))} (hk9 : ∀ (x0 : Nat) (x1 : Nat) (x2 : Int) (x3 : Int) (x4 : Int) (x5 : Int) (x6 : Int) (m0 : qM), gK (xG X) x0 = 6 → gK (xG X) x1 = 5 → in32 x2 → in32 x3 → in32 x4 → in32 x5 → in32 x6 → qR (xG X) m0 → k9 x0 x1 x2 x3 x4 x5 x6 m0 = some (r, nu) → qN X 8 9 [(0, .ref x0), (1, .ref x1), (2, .int (iZ x2)), (3, .int (iZ x3)), (4, .int (iZ x4)), (5, .int (iZ x5)), (6, .int (iZ x6))] [] m0)
    {x0 : Nat} {x1 : Nat} {x2 : Int} {x3 : Int} {x5 : Int} {x6 : Int} {s0 : Int} (k_x0 : gK (xG X) x0 = 6) (k_x1 : gK (xG X) x1 = 5) (r_x2 : in32 x2) (r_x3 : in32 x3) (r_x5 : in32 x5) (r_x6 : in32 x6) (r_s0 : in32 s0) {m0 : qM} (hR_m0 : qR (xG X) m0)
    (h : f_X5_leastTake_36 N (xG X) k9 x0 x1 x2 x3 x5 x6 s0 m0 = some (r, nu)) : qN X 8 36 [(0, .ref x0), (1, .ref x1), (2, .int (iZ x2)), (3, .int (iZ x3)), (5, .int (iZ x5)), (6, .int (iZ x6))] [.int (iZ s0)] m0 := by
  have hT := hX.T
  unfold f_X5_leastTake_36 at h
  refine qn_istore hX (pc := 36) (ls' := [(4, .int (iZ s0)), (0, .ref x0), (1, .ref x1), (2, .int (iZ x2)), (3, .int (iZ x3)), (5, .int (iZ x5)), (6, .int (iZ x6))]) dX5_leastTake_36 rfl rfl ?_
  refine qn_iload hX (pc := 38) dX5_leastTake_38 5 rfl ?_
  refine qn_aload_n hX (pc := 40) dX5_leastTake_40 1 rfl rfl ?_
  refine qn_getR hX (pc := 41) fd_X5_leastTake_17 dX5_leastTake_41 k_x0 ?_
  refine qn_iload hX (pc := 44) dX5_leastTake_44 6 rfl ?_
  obtain ⟨v1, e_v1, b_v1, h⟩ := rdA_e h
  have r_v1 : in32 v1 := by rw [e_v1]; exact hR_m0.a (n := 68) _ (qr_501 hT k_x0) (by decide)
  refine qn_iald hX (pc := 46) 68 dX5_leastTake_46 (qr_501 hT k_x0) (by decide) b_v1 e_v1 ?_
  refine qn_aload_n hX (pc := 47) dX5_leastTake_47 1 rfl rfl ?_
  refine qn_getR hX (pc := 48) fd_X5_leastTake_21 dX5_leastTake_48 k_x0 ?_
  refine qn_iload hX (pc := 51) dX5_leastTake_51 6 rfl ?_
  obtain ⟨v2, e_v2, b_v2, h⟩ := rdA_e h
  have r_v2 : in32 v2 := by rw [e_v2]; exact hR_m0.a (n := 68) _ (qr_502 hT k_x0) (by decide)
  refine qn_iald hX (pc := 53) 68 dX5_leastTake_53 (qr_502 hT k_x0) (by decide) b_v2 e_v2 ?_
  obtain ⟨v3, e_v3, h⟩ := kp_e h
  have r_v3 : in32 v3 := by rw [e_v3]; exact in32_min r_v1 r_v2
  refine qn_min hX (pc := 54) r_v1 r_v2 dX5_leastTake_54 (by decide +kernel) (by decide +kernel) (by decide +kernel) (by decide +kernel) ⟨rfl, rfl⟩ e_v3 ?_
  obtain ⟨v4, e_v4, r_v4, h⟩ := ckI_e h
  refine qn_iadd hX (pc := 57) dX5_leastTake_57 e_v4 ?_
  refine qn_istore hX (pc := 58) (ls' := [(5, .int (iZ v4)), (4, .int (iZ s0)), (0, .ref x0), (1, .ref x1), (2, .int (iZ x2)), (3, .int (iZ x3)), (6, .int (iZ x6))]) dX5_leastTake_58 rfl rfl ?_
  obtain ⟨v5, e_v5, r_v5, h⟩ := ckI_e h
  refine qn_iinc hX (pc := 60) (ls' := [(6, .int (iZ v5)), (5, .int (iZ v4)), (4, .int (iZ s0)), (0, .ref x0), (1, .ref x1), (2, .int (iZ x2)), (3, .int (iZ x3))]) dX5_leastTake_60 6 rfl e_v5 rfl rfl ?_
  refine qn_goto hX (pc := 63) 9 dX5_leastTake_63 (by decide) ?_
  refine qn_sub (ls' := [(0, .ref x0), (1, .ref x1), (2, .int (iZ x2)), (3, .int (iZ x3)), (4, .int (iZ s0)), (5, .int (iZ v4)), (6, .int (iZ v5))]) [3, 4, 5, 6, 2, 1, 0] rfl ?_
  exact hk9 x0 x1 x2 x3 s0 v4 v5 m0 k_x0 k_x1 r_x2 r_x3 r_s0 r_v4 r_v5 hR_m0 h
set_option maxHeartbeats 4000000 in
set_option maxRecDepth 20000 in
theorem w_X5_leastTake_9 {X : qB} {N : Nat} (hX : qOk X cX5_leastTake RX5 8 (some .int) wsX5_leastTake 2 53) {r : Int} {nu : qM} (hE : xr X = some (.int (iZ r)) ∧ (in32 r → xΦ X) ∧ xμ X = nu) {k9 : (Nat → Nat → Int → Int → Int → Int → Int → qM → Option (Int × qM))} (hk9 : ∀ (x0 : Nat) (x1 : Nat) (x2 : Int) (x3 : Int) (x4 : Int) (x5 : Int) (x6 : Int) (m0 : qM), gK (xG X) x0 = 6 → gK (xG X) x1 = 5 → in32 x2 → in32 x3 → in32 x4 → in32 x5 → in32 x6 → qR (xG X) m0 → k9 x0 x1 x2 x3 x4 x5 x6 m0 = some (r, nu) → qN X 8 9 [(0, .ref x0), (1, .ref x1), (2, .int (iZ x2)), (3, .int (iZ x3)), (4, .int (iZ x4)), (5, .int (iZ x5)), (6, .int (iZ x6))] [] m0)
    {x0 : Nat} {x1 : Nat} {x2 : Int} {x3 : Int} {x4 : Int} {x5 : Int} {x6 : Int} (k_x0 : gK (xG X) x0 = 6) (k_x1 : gK (xG X) x1 = 5) (r_x2 : in32 x2) (r_x3 : in32 x3) (r_x4 : in32 x4) (r_x5 : in32 x5) (r_x6 : in32 x6) {m0 : qM} (hR_m0 : qR (xG X) m0)
    (h : f_X5_leastTake_9 N (xG X) k9 x0 x1 x2 x3 x4 x5 x6 m0 = some (r, nu)) : qN X 8 9 [(0, .ref x0), (1, .ref x1), (2, .int (iZ x2)), (3, .int (iZ x3)), (4, .int (iZ x4)), (5, .int (iZ x5)), (6, .int (iZ x6))] [] m0 := by
  have hT := hX.T
  unfold f_X5_leastTake_9 at h
  refine qn_iload hX (pc := 9) dX5_leastTake_9 6 rfl ?_
  refine qn_aload_n hX (pc := 11) dX5_leastTake_11 0 rfl rfl ?_
  refine qn_getI hX (pc := 12) fd_X5_leastTake_33 dX5_leastTake_12 k_x0 ?_
  refine qn_icmp_ge hX (pc := 15) r_x6 (hR_m0.i 506 _ rfl) 66 dX5_leastTake_15 (by decide) (fun c1 => ?_) (fun c1 => ?_)
  · have h := ite_f h c1
    refine qn_aload_n hX (pc := 66) dX5_leastTake_66 0 rfl rfl ?_
    refine qn_getR hX (pc := 67) fd_X5_leastTake_17 dX5_leastTake_67 k_x0 ?_
    refine qn_iload hX (pc := 70) dX5_leastTake_70 4 rfl ?_
    obtain ⟨v2, e_v2, b_v2, h⟩ := rdA_e h
    have r_v2 : in32 v2 := by rw [e_v2]; exact hR_m0.a (n := 68) _ (qr_501 hT k_x0) (by decide)
    refine qn_iald hX (pc := 72) 68 dX5_leastTake_72 (qr_501 hT k_x0) (by decide) b_v2 e_v2 ?_
    refine qn_aload_n hX (pc := 73) dX5_leastTake_73 0 rfl rfl ?_
    refine qn_getR hX (pc := 74) fd_X5_leastTake_21 dX5_leastTake_74 k_x0 ?_
    refine qn_iload hX (pc := 77) dX5_leastTake_77 4 rfl ?_
    obtain ⟨v3, e_v3, b_v3, h⟩ := rdA_e h
    have r_v3 : in32 v3 := by rw [e_v3]; exact hR_m0.a (n := 68) _ (qr_502 hT k_x0) (by decide)
    refine qn_iald hX (pc := 79) 68 dX5_leastTake_79 (qr_502 hT k_x0) (by decide) b_v3 e_v3 ?_
    obtain ⟨v4, e_v4, h⟩ := kp_e h
    have r_v4 : in32 v4 := by rw [e_v4]; exact in32_min r_v2 r_v3
    refine qn_min hX (pc := 80) r_v2 r_v3 dX5_leastTake_80 (by decide +kernel) (by decide +kernel) (by decide +kernel) (by decide +kernel) ⟨rfl, rfl⟩ e_v4 ?_
    refine qn_iload_n hX (pc := 83) dX5_leastTake_83 2 rfl rfl ?_
    refine qn_icmp_lt hX (pc := 84) r_v4 r_x2 89 dX5_leastTake_84 (by decide) (fun c5 => ?_) (fun c5 => ?_)
    · have h := ite_t h c5
      refine qn_iconst hX (pc := 89) dX5_leastTake_89 ?_
      refine qn_istore hX (pc := 90) (ls' := [(6, .int (iZ 1)), (0, .ref x0), (1, .ref x1), (2, .int (iZ x2)), (3, .int (iZ x3)), (4, .int (iZ x4)), (5, .int (iZ x5))]) dX5_leastTake_90 rfl rfl ?_
      refine qn_iload hX (pc := 92) dX5_leastTake_92 6 rfl ?_
      refine qn_iconst hX (pc := 94) dX5_leastTake_94 ?_
      obtain ⟨v6, e_v6, r_v6, h⟩ := ckI_e h
      refine qn_iadd hX (pc := 95) dX5_leastTake_95 e_v6 ?_
      refine qn_istore hX (pc := 96) (ls' := [(7, .int (iZ v6)), (6, .int (iZ 1)), (0, .ref x0), (1, .ref x1), (2, .int (iZ x2)), (3, .int (iZ x3)), (4, .int (iZ x4)), (5, .int (iZ x5))]) dX5_leastTake_96 rfl rfl ?_
      refine qn_sub (ls' := [(0, .ref x0), (2, .int (iZ x2)), (3, .int (iZ x3)), (4, .int (iZ x4)), (5, .int (iZ x5)), (7, .int (iZ v6))]) [2, 4, 5, 6, 7, 0] rfl ?_
      exact w_X5_leastTake_L98 hX hE  k_x0 r_x2 r_x3 r_x4 r_x5 r_v6 hR_m0 h
    · have h := ite_f h c5
      refine qn_iload_n hX (pc := 87) dX5_leastTake_87 2 rfl rfl ?_
      exact qn_iret hX (pc := 88) dX5_leastTake_88 hE hR_m0 r_x2 (Option.some.inj h)
  · have h := ite_t h c1
    refine qn_aload_n hX (pc := 18) dX5_leastTake_18 0 rfl rfl ?_
    refine qn_getR hX (pc := 19) fd_X5_leastTake_13 dX5_leastTake_19 k_x0 ?_
    refine qn_iload hX (pc := 22) dX5_leastTake_22 6 rfl ?_
    obtain ⟨o7, e_o7, b_o7, k_o7, h⟩ := rdQ_e h
    refine qn_aaldO hX (pc := 24) 68 dX5_leastTake_24 (qr_500 hT k_x0) (by decide) b_o7 e_o7 ?_
    refine qn_aload_n hX (pc := 25) dX5_leastTake_25 1 rfl rfl ?_
    refine qn_acmp_ne hX (pc := 26) 34 dX5_leastTake_26 (by decide) (fun c8 => ?_) (fun c8 => ?_)
    · have h := ite_f h c8
      refine qn_iload hX (pc := 34) dX5_leastTake_34 4 rfl ?_
      refine qn_sub (ls' := [(0, .ref x0), (1, .ref x1), (2, .int (iZ x2)), (3, .int (iZ x3)), (5, .int (iZ x5)), (6, .int (iZ x6))]) [0, 1, 2, 3, 5, 6] rfl ?_
      exact w_X5_leastTake_36 hX hE hk9 k_x0 k_x1 r_x2 r_x3 r_x5 r_x6 r_x4 hR_m0 h
    · have h := ite_t h c8
      refine qn_iload hX (pc := 29) dX5_leastTake_29 6 rfl ?_
      refine qn_goto hX (pc := 31) 36 dX5_leastTake_31 (by decide) ?_
      refine qn_sub (ls' := [(0, .ref x0), (1, .ref x1), (2, .int (iZ x2)), (3, .int (iZ x3)), (5, .int (iZ x5)), (6, .int (iZ x6))]) [0, 1, 2, 3, 5, 6] rfl ?_
      exact w_X5_leastTake_36 hX hE hk9 k_x0 k_x1 r_x2 r_x3 r_x5 r_x6 r_x6 hR_m0 h
set_option maxHeartbeats 4000000 in
set_option maxRecDepth 20000 in
theorem w_X5_leastTake_L9 {X : qB} {N : Nat} (hX : qOk X cX5_leastTake RX5 8 (some .int) wsX5_leastTake 2 53) {r : Int} {nu : qM} (hE : xr X = some (.int (iZ r)) ∧ (in32 r → xΦ X) ∧ xμ X = nu) 
    {x0 : Nat} {x1 : Nat} {x2 : Int} {x3 : Int} {x4 : Int} {x5 : Int} {x6 : Int} (k_x0 : gK (xG X) x0 = 6) (k_x1 : gK (xG X) x1 = 5) (r_x2 : in32 x2) (r_x3 : in32 x3) (r_x4 : in32 x4) (r_x5 : in32 x5) (r_x6 : in32 x6) {m0 : qM} (hR_m0 : qR (xG X) m0)
    (h : f_X5_leastTake_L9 N (xG X)  x0 x1 x2 x3 x4 x5 x6 m0 = some (r, nu)) : qN X 8 9 [(0, .ref x0), (1, .ref x1), (2, .int (iZ x2)), (3, .int (iZ x3)), (4, .int (iZ x4)), (5, .int (iZ x5)), (6, .int (iZ x6))] [] m0 := by
  unfold f_X5_leastTake_L9 at h
  exact qLoop_w (σ := Nat × Nat × Int × Int × Int × Int × Int × qM) (P := fun p => gK (xG X) p.1 = 6 ∧ gK (xG X) p.2.1 = 5 ∧ in32 p.2.2.1 ∧ in32 p.2.2.2.1 ∧ in32 p.2.2.2.2.1 ∧ in32 p.2.2.2.2.2.1 ∧ in32 p.2.2.2.2.2.2.1 ∧ qR (xG X) p.2.2.2.2.2.2.2) (Q := fun p => qN X 8 9 [(0, .ref p.1), (1, .ref p.2.1), (2, .int (iZ p.2.2.1)), (3, .int (iZ p.2.2.2.1)), (4, .int (iZ p.2.2.2.2.1)), (5, .int (iZ p.2.2.2.2.2.1)), (6, .int (iZ p.2.2.2.2.2.2.1))] [] p.2.2.2.2.2.2.2) (fun k hrec p hp hh => w_X5_leastTake_9 hX hE (fun x0 x1 x2 x3 x4 x5 x6 m0 q0 q1 q2 q3 q4 q5 q6 hRm hh => hrec (x0, x1, x2, x3, x4, x5, x6, m0) ⟨q0, q1, q2, q3, q4, q5, q6, hRm⟩ hh) hp.1 hp.2.1 hp.2.2.1 hp.2.2.2.1 hp.2.2.2.2.1 hp.2.2.2.2.2.1 hp.2.2.2.2.2.2.1 hp.2.2.2.2.2.2.2 hh) N (x0, x1, x2, x3, x4, x5, x6, m0) ⟨k_x0, k_x1, r_x2, r_x3, r_x4, r_x5, r_x6, hR_m0⟩ h
set_option maxHeartbeats 4000000 in
set_option maxRecDepth 20000 in
theorem w_X5_leastTake {X : qB} {N : Nat} (hX : qOk X cX5_leastTake RX5 8 (some .int) wsX5_leastTake 2 53) {r : Int} {nu : qM} (hE : xr X = some (.int (iZ r)) ∧ (in32 r → xΦ X) ∧ xμ X = nu) 
    {x0 : Nat} {x1 : Nat} {x2 : Int} {x3 : Int} (k_x0 : gK (xG X) x0 = 6) (k_x1 : gK (xG X) x1 = 5) (r_x2 : in32 x2) (r_x3 : in32 x3) {m0 : qM} (hR_m0 : qR (xG X) m0)
    (h : f_X5_leastTake N (xG X)  x0 x1 x2 x3 m0 = some (r, nu)) : qN X 8 0 [(0, .ref x0), (1, .ref x1), (2, .int (iZ x2)), (3, .int (iZ x3))] [] m0 := by
  have hT := hX.T
  unfold f_X5_leastTake at h
  refine qn_iconst hX (pc := 0) dX5_leastTake_0 ?_
  refine qn_istore hX (pc := 1) (ls' := [(4, .int (iZ 0)), (0, .ref x0), (1, .ref x1), (2, .int (iZ x2)), (3, .int (iZ x3))]) dX5_leastTake_1 rfl rfl ?_
  refine qn_iconst hX (pc := 3) dX5_leastTake_3 ?_
  refine qn_istore hX (pc := 4) (ls' := [(5, .int (iZ 0)), (4, .int (iZ 0)), (0, .ref x0), (1, .ref x1), (2, .int (iZ x2)), (3, .int (iZ x3))]) dX5_leastTake_4 rfl rfl ?_
  refine qn_iconst hX (pc := 6) dX5_leastTake_6 ?_
  refine qn_istore hX (pc := 7) (ls' := [(6, .int (iZ 0)), (5, .int (iZ 0)), (4, .int (iZ 0)), (0, .ref x0), (1, .ref x1), (2, .int (iZ x2)), (3, .int (iZ x3))]) dX5_leastTake_7 rfl rfl ?_
  refine qn_sub (ls' := [(0, .ref x0), (1, .ref x1), (2, .int (iZ x2)), (3, .int (iZ x3)), (4, .int (iZ 0)), (5, .int (iZ 0)), (6, .int (iZ 0))]) [3, 4, 5, 6, 2, 1, 0] rfl ?_
  exact w_X5_leastTake_L9 hX hE  k_x0 k_x1 r_x2 r_x3 (by decide) (by decide) (by decide) hR_m0 h
theorem k_X5_leastTake (l : Launch) {G : qG} (hT : qT G) {N : Nat} {x0 : Nat} {x1 : Nat} {x2 : Int} {x3 : Int} (k_x0 : gK G x0 = 6) (k_x1 : gK G x1 = 5) (r_x2 : in32 x2) (r_x3 : in32 x3) {m0 : qM} {r : Int} {nu : qM} (h : f_X5_leastTake N G x0 x1 x2 x3 m0 = some (r, nu)) : qC l yX5_leastTake wsX5_leastTake 2 53 G [.ref x0, .ref x1, .int (iZ x2), .int (iZ x3)] m0 (some (.int (iZ r))) (in32 r) nu := by
  refine qn_start (hy := by decide) hT (hw := rfl) (hn := Nat.le_of_ble_eq_true rfl) ?_
  intro X h1 h2 h3 h4 hX hR
  subst h4
  exact w_X5_leastTake hX ⟨h1, fun q => h2 ▸ q, h3⟩ k_x0 k_x1 r_x2 r_x3 hR h
theorem dd_X5_leastTake : yX5_leastTake.cls = RX5 ∧ yX5_leastTake.cls ≠ "java/lang/invoke/MethodHandle" ∧ yX5_leastTake.cls ≠ "java/lang/invoke/VarHandle" ∧ (parseMethodDescriptor yX5_leastTake.desc).map (fun d => d.parameters.length) = some 3 := by decide +kernel
-- ProRataMarket$Sharing.putParts
theorem hi_X5_putParts_4 : ∀ w ∈ wsX40, w ∈ wsX5_putParts := fun w h => List.mem_cons_of_mem _ (List.mem_append_left _ (List.mem_append_right _ h))
theorem fd_X5_putParts_51 : qFd RX5 wsX5_putParts 51 4 4 0 404 := ⟨RX4, TX4, 6, _, rfl, hi_X5_putParts_4, by decide, (by decide +kernel : Cond.fieldLink RX5 51 (TX4 4).1 (TX4 4).2.1 (TX4 4).2.2.1 ∈ wsX5_putParts), rfl, rfl, by decide⟩
set_option maxHeartbeats 4000000 in
set_option maxRecDepth 20000 in
theorem w_X5_putParts_46 {X : qB} {N : Nat} (hX : qOk X cX5_putParts RX5 6 none wsX5_putParts 1 23) {r : qM} (hE : xr X = none ∧ (True → xΦ X) ∧ xμ X = r) {k24 : (Nat → Nat → Int → Int → Int → Int → qM → Option (qM))} (hk24 : ∀ (x0 : Nat) (x1 : Nat) (x2 : Int) (x3 : Int) (x4 : Int) (x5 : Int) (m0 : qM), gK (xG X) x0 = 6 → gK (xG X) x1 = 5 → in32 x2 → in32 x3 → in32 x4 → in32 x5 → qR (xG X) m0 → k24 x0 x1 x2 x3 x4 x5 m0 = some r → qN X 6 24 [(0, .ref x0), (1, .ref x1), (2, .int (iZ x2)), (3, .int (iZ x3)), (4, .int (iZ x4)), (5, .int (iZ x5))] [] m0)
    {x0 : Nat} {x1 : Nat} {x2 : Int} {x3 : Int} {x4 : Int} {x5 : Int} {s0 : Nat} {s1 : Nat} {s2 : Int} (k_x0 : gK (xG X) x0 = 6) (k_x1 : gK (xG X) x1 = 5) (r_x2 : in32 x2) (r_x3 : in32 x3) (r_x4 : in32 x4) (r_x5 : in32 x5) (k_s0 : gK (xG X) s0 = 6) (k_s1 : gK (xG X) s1 = 5) (r_s2 : in32 s2) {m0 : qM} (hR_m0 : qR (xG X) m0)
    (h : f_X5_putParts_46 N (xG X) k24 x0 x1 x2 x3 x4 x5 s0 s1 s2 m0 = some r) : qN X 6 46 [(0, .ref x0), (1, .ref x1), (2, .int (iZ x2)), (3, .int (iZ x3)), (4, .int (iZ x4)), (5, .int (iZ x5))] [.int (iZ s2), .ref s1, .ref s0] m0 := by
  have hT := hX.T
  unfold f_X5_putParts_46 at h
  refine qn_iconst hX (pc := 46) dX5_putParts_46 ?_
  obtain ⟨m1, e_m1, h⟩ := kb_e h
  refine qn_callVv hX (pc := 47) [.ref s1, .int (iZ s2), .int (iZ 0)] [.int (iZ 0), .int (iZ s2), .ref s1] 3 dX5_putParts_47 gX5_putParts_X5_put rfl dd_X5_put ⟨rfl, rfl⟩ rfl rfl (by decide) k_s0 rfl rfl hR_m0 (k_X5_put (xl X) hT k_s0 k_s1 r_s2 (by decide) e_m1) (fun r_v2 hR_m1 => ?_)
  obtain ⟨v3, e_v3, r_v3, h⟩ := ckI_e h
  refine qn_iinc hX (pc := 50) (ls' := [(5, .int (iZ v3)), (0, .ref x0), (1, .ref x1), (2, .int (iZ x2)), (3, .int (iZ x3)), (4, .int (iZ x4))]) dX5_putParts_50 5 rfl e_v3 rfl rfl ?_
  refine qn_goto hX (pc := 53) 24 dX5_putParts_53 (by decide) ?_
  refine qn_sub (ls' := [(0, .ref x0), (1, .ref x1), (2, .int (iZ x2)), (3, .int (iZ x3)), (4, .int (iZ x4)), (5, .int (iZ v3))]) [1, 2, 3, 4, 5, 0] rfl ?_
  exact hk24 x0 x1 x2 x3 x4 v3 m1 k_x0 k_x1 r_x2 r_x3 r_x4 r_v3 hR_m1 h
set_option maxHeartbeats 4000000 in
set_option maxRecDepth 20000 in
theorem w_X5_putParts_24 {X : qB} {N : Nat} (hX : qOk X cX5_putParts RX5 6 none wsX5_putParts 1 23) {r : qM} (hE : xr X = none ∧ (True → xΦ X) ∧ xμ X = r) {k24 : (Nat → Nat → Int → Int → Int → Int → qM → Option (qM))} (hk24 : ∀ (x0 : Nat) (x1 : Nat) (x2 : Int) (x3 : Int) (x4 : Int) (x5 : Int) (m0 : qM), gK (xG X) x0 = 6 → gK (xG X) x1 = 5 → in32 x2 → in32 x3 → in32 x4 → in32 x5 → qR (xG X) m0 → k24 x0 x1 x2 x3 x4 x5 m0 = some r → qN X 6 24 [(0, .ref x0), (1, .ref x1), (2, .int (iZ x2)), (3, .int (iZ x3)), (4, .int (iZ x4)), (5, .int (iZ x5))] [] m0)
    {x0 : Nat} {x1 : Nat} {x2 : Int} {x3 : Int} {x4 : Int} {x5 : Int} (k_x0 : gK (xG X) x0 = 6) (k_x1 : gK (xG X) x1 = 5) (r_x2 : in32 x2) (r_x3 : in32 x3) (r_x4 : in32 x4) (r_x5 : in32 x5) {m0 : qM} (hR_m0 : qR (xG X) m0)
    (h : f_X5_putParts_24 N (xG X) k24 x0 x1 x2 x3 x4 x5 m0 = some r) : qN X 6 24 [(0, .ref x0), (1, .ref x1), (2, .int (iZ x2)), (3, .int (iZ x3)), (4, .int (iZ x4)), (5, .int (iZ x5))] [] m0 := by
  have hT := hX.T
  unfold f_X5_putParts_24 at h
  refine qn_iload hX (pc := 24) dX5_putParts_24 5 rfl ?_
  refine qn_iload_n hX (pc := 26) dX5_putParts_26 2 rfl rfl ?_
  refine qn_icmp_ge hX (pc := 27) r_x5 r_x2 56 dX5_putParts_27 (by decide) (fun c1 => ?_) (fun c1 => ?_)
  · have h := ite_f h c1
    exact qn_vret hX (pc := 56) dX5_putParts_56 hE hR_m0 (Option.some.inj h)
  · have h := ite_t h c1
    refine qn_aload_n hX (pc := 30) dX5_putParts_30 0 rfl rfl ?_
    refine qn_aload_n hX (pc := 31) dX5_putParts_31 1 rfl rfl ?_
    refine qn_iload hX (pc := 32) dX5_putParts_32 5 rfl ?_
    refine qn_iload hX (pc := 34) dX5_putParts_34 4 rfl ?_
    refine qn_icmp_ge hX (pc := 36) r_x5 r_x4 45 dX5_putParts_36 (by decide) (fun c2 => ?_) (fun c2 => ?_)
    · have h := ite_f h c2
      refine qn_iload_n hX (pc := 45) dX5_putParts_45 3 rfl rfl ?_
      refine qn_sub (ls' := [(0, .ref x0), (1, .ref x1), (2, .int (iZ x2)), (3, .int (iZ x3)), (4, .int (iZ x4)), (5, .int (iZ x5))]) [0, 1, 2, 3, 4, 5] rfl ?_
      exact w_X5_putParts_46 hX hE hk24 k_x0 k_x1 r_x2 r_x3 r_x4 r_x5 k_x0 k_x1 r_x3 hR_m0 h
    · have h := ite_t h c2
      refine qn_iload_n hX (pc := 39) dX5_putParts_39 3 rfl rfl ?_
      refine qn_iconst hX (pc := 40) dX5_putParts_40 ?_
      obtain ⟨v3, e_v3, r_v3, h⟩ := ckI_e h
      refine qn_iadd hX (pc := 41) dX5_putParts_41 e_v3 ?_
      refine qn_goto hX (pc := 42) 46 dX5_putParts_42 (by decide) ?_
      refine qn_sub (ls' := [(0, .ref x0), (1, .ref x1), (2, .int (iZ x2)), (3, .int (iZ x3)), (4, .int (iZ x4)), (5, .int (iZ x5))]) [0, 1, 2, 3, 4, 5] rfl ?_
      exact w_X5_putParts_46 hX hE hk24 k_x0 k_x1 r_x2 r_x3 r_x4 r_x5 k_x0 k_x1 r_v3 hR_m0 h
set_option maxHeartbeats 4000000 in
set_option maxRecDepth 20000 in
theorem w_X5_putParts_L24 {X : qB} {N : Nat} (hX : qOk X cX5_putParts RX5 6 none wsX5_putParts 1 23) {r : qM} (hE : xr X = none ∧ (True → xΦ X) ∧ xμ X = r) 
    {x0 : Nat} {x1 : Nat} {x2 : Int} {x3 : Int} {x4 : Int} {x5 : Int} (k_x0 : gK (xG X) x0 = 6) (k_x1 : gK (xG X) x1 = 5) (r_x2 : in32 x2) (r_x3 : in32 x3) (r_x4 : in32 x4) (r_x5 : in32 x5) {m0 : qM} (hR_m0 : qR (xG X) m0)
    (h : f_X5_putParts_L24 N (xG X)  x0 x1 x2 x3 x4 x5 m0 = some r) : qN X 6 24 [(0, .ref x0), (1, .ref x1), (2, .int (iZ x2)), (3, .int (iZ x3)), (4, .int (iZ x4)), (5, .int (iZ x5))] [] m0 := by
  unfold f_X5_putParts_L24 at h
  exact qLoop_w (σ := Nat × Nat × Int × Int × Int × Int × qM) (P := fun p => gK (xG X) p.1 = 6 ∧ gK (xG X) p.2.1 = 5 ∧ in32 p.2.2.1 ∧ in32 p.2.2.2.1 ∧ in32 p.2.2.2.2.1 ∧ in32 p.2.2.2.2.2.1 ∧ qR (xG X) p.2.2.2.2.2.2) (Q := fun p => qN X 6 24 [(0, .ref p.1), (1, .ref p.2.1), (2, .int (iZ p.2.2.1)), (3, .int (iZ p.2.2.2.1)), (4, .int (iZ p.2.2.2.2.1)), (5, .int (iZ p.2.2.2.2.2.1))] [] p.2.2.2.2.2.2) (fun k hrec p hp hh => w_X5_putParts_24 hX hE (fun x0 x1 x2 x3 x4 x5 m0 q0 q1 q2 q3 q4 q5 hRm hh => hrec (x0, x1, x2, x3, x4, x5, m0) ⟨q0, q1, q2, q3, q4, q5, hRm⟩ hh) hp.1 hp.2.1 hp.2.2.1 hp.2.2.2.1 hp.2.2.2.2.1 hp.2.2.2.2.2.1 hp.2.2.2.2.2.2 hh) N (x0, x1, x2, x3, x4, x5, m0) ⟨k_x0, k_x1, r_x2, r_x3, r_x4, r_x5, hR_m0⟩ h
set_option maxHeartbeats 4000000 in
set_option maxRecDepth 20000 in
theorem w_X5_putParts {X : qB} {N : Nat} (hX : qOk X cX5_putParts RX5 6 none wsX5_putParts 1 23) {r : qM} (hE : xr X = none ∧ (True → xΦ X) ∧ xμ X = r) 
    {x0 : Nat} {x1 : Nat} {x2 : Int} (k_x0 : gK (xG X) x0 = 6) (k_x1 : gK (xG X) x1 = 5) (r_x2 : in32 x2) {m0 : qM} (hR_m0 : qR (xG X) m0)
    (h : f_X5_putParts N (xG X)  x0 x1 x2 m0 = some r) : qN X 6 0 [(0, .ref x0), (1, .ref x1), (2, .int (iZ x2))] [] m0 := by
  have hT := hX.T
  unfold f_X5_putParts at h
  refine qn_iload_n hX (pc := 0) dX5_putParts_0 2 rfl rfl ?_
  refine qn_iconst hX (pc := 1) dX5_putParts_1 ?_
  refine qn_icmp_ge hX (pc := 2) r_x2 (by decide) 6 dX5_putParts_2 (by decide) (fun c1 => ?_) (fun c1 => ?_)
  · have h := ite_f h c1
    refine qn_aload_n hX (pc := 6) dX5_putParts_6 1 rfl rfl ?_
    refine qn_getI hX (pc := 7) fd_X5_putParts_51 dX5_putParts_7 k_x1 ?_
    refine qn_iload_n hX (pc := 10) dX5_putParts_10 2 rfl rfl ?_
    obtain ⟨n_v2, h⟩ := ckD_e h
    obtain ⟨v2, e_v2, r_v2, h⟩ := ckI_e h
    refine qn_idiv hX (pc := 11) (hR_m0.i 404 _ rfl) r_x2 n_v2 dX5_putParts_11 e_v2 ?_
    refine qn_istore_n hX (pc := 12) (ls' := [(3, .int (iZ v2)), (0, .ref x0), (1, .ref x1), (2, .int (iZ x2))]) dX5_putParts_12 rfl rfl rfl ?_
    refine qn_aload_n hX (pc := 13) dX5_putParts_13 2 rfl rfl ?_
    refine qn_getI hX (pc := 14) fd_X5_putParts_51 dX5_putParts_14 k_x1 ?_
    refine qn_iload_n hX (pc := 17) dX5_putParts_17 3 rfl rfl ?_
    obtain ⟨n_v3, h⟩ := ckD_e h
    obtain ⟨v3, e_v3, r_v3, h⟩ := ckI_e h
    refine qn_irem hX (pc := 18) (hR_m0.i 404 _ rfl) r_x2 n_v3 dX5_putParts_18 e_v3 ?_
    refine qn_istore hX (pc := 19) (ls' := [(4, .int (iZ v3)), (3, .int (iZ v2)), (0, .ref x0), (1, .ref x1), (2, .int (iZ x2))]) dX5_putParts_19 rfl rfl ?_
    refine qn_iconst hX (pc := 21) dX5_putParts_21 ?_
    refine qn_istore hX (pc := 22) (ls' := [(5, .int (iZ 0)), (4, .int (iZ v3)), (3, .int (iZ v2)), (0, .ref x0), (1, .ref x1), (2, .int (iZ x2))]) dX5_putParts_22 rfl rfl ?_
    refine qn_sub (ls' := [(0, .ref x0), (1, .ref x1), (2, .int (iZ x2)), (3, .int (iZ v2)), (4, .int (iZ v3)), (5, .int (iZ 0))]) [3, 4, 5, 2, 1, 0] rfl ?_
    exact w_X5_putParts_L24 hX hE  k_x0 k_x1 r_x2 r_v2 r_v3 (by decide) hR_m0 h
  · have h := ite_t h c1
    exact qn_vret hX (pc := 5) dX5_putParts_5 hE hR_m0 (Option.some.inj h)
theorem k_X5_putParts (l : Launch) {G : qG} (hT : qT G) {N : Nat} {x0 : Nat} {x1 : Nat} {x2 : Int} (k_x0 : gK G x0 = 6) (k_x1 : gK G x1 = 5) (r_x2 : in32 x2) {m0 : qM} {r : qM} (h : f_X5_putParts N G x0 x1 x2 m0 = some r) : qC l yX5_putParts wsX5_putParts 1 23 G [.ref x0, .ref x1, .int (iZ x2)] m0 none True r := by
  refine qn_start (hy := by decide) hT (hw := rfl) (hn := Nat.le_of_ble_eq_true rfl) ?_
  intro X h1 h2 h3 h4 hX hR
  subst h4
  exact w_X5_putParts hX ⟨h1, fun q => h2 ▸ q, h3⟩ k_x0 k_x1 r_x2 hR h
theorem dd_X5_putParts : yX5_putParts.cls = RX5 ∧ yX5_putParts.cls ≠ "java/lang/invoke/MethodHandle" ∧ yX5_putParts.cls ≠ "java/lang/invoke/VarHandle" ∧ (parseMethodDescriptor yX5_putParts.desc).map (fun d => d.parameters.length) = some 2 := by decide +kernel
-- ProRataMarket$Sharing.loadInParts
theorem hi_X5_loadInParts_0 : ∀ w ∈ wsX00, w ∈ wsX5_loadInParts := fun w h => List.mem_cons_of_mem _ (List.mem_append_left _ (List.mem_append_right _ h))
theorem fd_X5_loadInParts_40 : qFd RX5 wsX5_loadInParts 40 0 1 0 1 := ⟨RX0, TX0, 4, _, rfl, hi_X5_loadInParts_0, by decide, (by decide +kernel : Cond.fieldLink RX5 40 (TX0 1).1 (TX0 1).2.1 (TX0 1).2.2.1 ∈ wsX5_loadInParts), rfl, rfl, by decide⟩
theorem fd_X5_loadInParts_49 : qFd RX5 wsX5_loadInParts 49 0 0 1 0 := ⟨RX0, TX0, 4, _, rfl, hi_X5_loadInParts_0, by decide, (by decide +kernel : Cond.fieldLink RX5 49 (TX0 0).1 (TX0 0).2.1 (TX0 0).2.2.1 ∈ wsX5_loadInParts), rfl, rfl, by decide⟩
theorem hi_X5_loadInParts_4 : ∀ w ∈ wsX40, w ∈ wsX5_loadInParts := fun w h => List.mem_cons_of_mem _ (List.mem_append_right _ h)
theorem fd_X5_loadInParts_65 : qFd RX5 wsX5_loadInParts 65 4 2 0 402 := ⟨RX4, TX4, 6, _, rfl, hi_X5_loadInParts_4, by decide, (by decide +kernel : Cond.fieldLink RX5 65 (TX4 2).1 (TX4 2).2.1 (TX4 2).2.2.1 ∈ wsX5_loadInParts), rfl, rfl, by decide⟩
theorem fd_X5_loadInParts_68 : qFd RX5 wsX5_loadInParts 68 4 3 0 403 := ⟨RX4, TX4, 6, _, rfl, hi_X5_loadInParts_4, by decide, (by decide +kernel : Cond.fieldLink RX5 68 (TX4 3).1 (TX4 3).2.1 (TX4 3).2.2.1 ∈ wsX5_loadInParts), rfl, rfl, by decide⟩
theorem fd_X5_loadInParts_51 : qFd RX5 wsX5_loadInParts 51 4 4 0 404 := ⟨RX4, TX4, 6, _, rfl, hi_X5_loadInParts_4, by decide, (by decide +kernel : Cond.fieldLink RX5 51 (TX4 4).1 (TX4 4).2.1 (TX4 4).2.2.1 ∈ wsX5_loadInParts), rfl, rfl, by decide⟩
theorem hi_X5_loadInParts_5 : ∀ w ∈ wsX50, w ∈ wsX5_loadInParts := fun w h => List.mem_cons_of_mem _ (List.mem_append_left _ (List.mem_append_left _ (List.mem_append_right _ h)))
theorem fp_X5_loadInParts_33 : qFp RX5 wsX5_loadInParts 33 5 6 0 506 .int := ⟨RX5, TX5, 8, _, tyX5, rfl, hi_X5_loadInParts_5, by decide, (by decide +kernel : Cond.fieldLink RX5 33 (TX5 6).1 (TX5 6).2.1 (TX5 6).2.2.1 ∈ wsX5_loadInParts), rfl, rfl, by decide, tyX5_ok, nmX5, rfl, by decide +kernel⟩
theorem fp_X5_loadInParts_37 : qFp RX5 wsX5_loadInParts 37 5 7 0 507 .int := ⟨RX5, TX5, 8, _, tyX5, rfl, hi_X5_loadInParts_5, by decide, (by decide +kernel : Cond.fieldLink RX5 37 (TX5 7).1 (TX5 7).2.1 (TX5 7).2.2.1 ∈ wsX5_loadInParts), rfl, rfl, by decide, tyX5_ok, nmX5, rfl, by decide +kernel⟩
set_option maxHeartbeats 4000000 in
set_option maxRecDepth 20000 in
theorem w_X5_loadInParts_81 {X : qB} {N : Nat} (hX : qOk X cX5_loadInParts RX5 6 none wsX5_loadInParts 2 48) {r : qM} (hE : xr X = none ∧ (True → xΦ X) ∧ xμ X = r) {k13 : (Nat → Nat → Nat → Int → Int → qM → Option (qM))} (hk13 : ∀ (x0 : Nat) (x1 : Nat) (x2 : Nat) (x3 : Int) (x4 : Int) (m0 : qM), gK (xG X) x0 = 6 → gK (xG X) x1 = 1 → gK (xG X) x2 = 5 → in32 x3 → in32 x4 → qR (xG X) m0 → k13 x0 x1 x2 x3 x4 m0 = some r → qN X 6 13 [(0, .ref x0), (1, .ref x1), (2, .ref x2), (3, .int (iZ x3)), (4, .int (iZ x4))] [] m0)
    {x0 : Nat} {x1 : Nat} {x2 : Nat} {x3 : Int} {x4 : Int} (k_x0 : gK (xG X) x0 = 6) (k_x1 : gK (xG X) x1 = 1) (k_x2 : gK (xG X) x2 = 5) (r_x3 : in32 x3) (r_x4 : in32 x4) {m0 : qM} (hR_m0 : qR (xG X) m0)
    (h : f_X5_loadInParts_81 N (xG X) k13 x0 x1 x2 x3 x4 m0 = some r) : qN X 6 81 [(0, .ref x0), (1, .ref x1), (2, .ref x2), (3, .int (iZ x3)), (4, .int (iZ x4))] [] m0 := by
  have hT := hX.T
  unfold f_X5_loadInParts_81 at h
  obtain ⟨v1, e_v1, r_v1, h⟩ := ckI_e h
  refine qn_iinc hX (pc := 81) (ls' := [(4, .int (iZ v1)), (0, .ref x0), (1, .ref x1), (2, .ref x2), (3, .int (iZ x3))]) dX5_loadInParts_81 4 rfl e_v1 rfl rfl ?_
  refine qn_goto hX (pc := 84) 13 dX5_loadInParts_84 (by decide) ?_
  refine qn_sub (ls' := [(0, .ref x0), (1, .ref x1), (2, .ref x2), (3, .int (iZ x3)), (4, .int (iZ v1))]) [1, 2, 3, 4, 0] rfl ?_
  exact hk13 x0 x1 x2 x3 v1 m0 k_x0 k_x1 k_x2 r_x3 r_v1 hR_m0 h
set_option maxHeartbeats 4000000 in
set_option maxRecDepth 20000 in
theorem w_X5_loadInParts_13 {X : qB} {N : Nat} (hX : qOk X cX5_loadInParts RX5 6 none wsX5_loadInParts 2 48) {r : qM} (hE : xr X = none ∧ (True → xΦ X) ∧ xμ X = r) {k13 : (Nat → Nat → Nat → Int → Int → qM → Option (qM))} (hk13 : ∀ (x0 : Nat) (x1 : Nat) (x2 : Nat) (x3 : Int) (x4 : Int) (m0 : qM), gK (xG X) x0 = 6 → gK (xG X) x1 = 1 → gK (xG X) x2 = 5 → in32 x3 → in32 x4 → qR (xG X) m0 → k13 x0 x1 x2 x3 x4 m0 = some r → qN X 6 13 [(0, .ref x0), (1, .ref x1), (2, .ref x2), (3, .int (iZ x3)), (4, .int (iZ x4))] [] m0)
    {x0 : Nat} {x1 : Nat} {x2 : Nat} {x3 : Int} {x4 : Int} (k_x0 : gK (xG X) x0 = 6) (k_x1 : gK (xG X) x1 = 1) (k_x2 : gK (xG X) x2 = 5) (r_x3 : in32 x3) (r_x4 : in32 x4) {m0 : qM} (hR_m0 : qR (xG X) m0)
    (h : f_X5_loadInParts_13 N (xG X) k13 x0 x1 x2 x3 x4 m0 = some r) : qN X 6 13 [(0, .ref x0), (1, .ref x1), (2, .ref x2), (3, .int (iZ x3)), (4, .int (iZ x4))] [] m0 := by
  have hT := hX.T
  unfold f_X5_loadInParts_13 at h
  refine qn_iload hX (pc := 13) dX5_loadInParts_13 4 rfl ?_
  refine qn_aload_n hX (pc := 15) dX5_loadInParts_15 1 rfl rfl ?_
  refine qn_getI hX (pc := 16) fd_X5_loadInParts_40 dX5_loadInParts_16 k_x1 ?_
  refine qn_icmp_ge hX (pc := 19) r_x4 (hR_m0.i 1 _ rfl) 87 dX5_loadInParts_19 (by decide) (fun c1 => ?_) (fun c1 => ?_)
  · have h := ite_f h c1
    exact qn_vret hX (pc := 87) dX5_loadInParts_87 hE hR_m0 (Option.some.inj h)
  · have h := ite_t h c1
    refine qn_aload_n hX (pc := 22) dX5_loadInParts_22 1 rfl rfl ?_
    refine qn_getR hX (pc := 23) fd_X5_loadInParts_49 dX5_loadInParts_23 k_x1 ?_
    refine qn_iload hX (pc := 26) dX5_loadInParts_26 4 rfl ?_
    obtain ⟨o2, e_o2, b_o2, k_o2, h⟩ := rdQ_e h
    refine qn_aaldO hX (pc := 28) 60 dX5_loadInParts_28 (qr_0 hT k_x1) (by decide) b_o2 e_o2 ?_
    refine qn_astore hX (pc := 29) (ls' := [(5, .ref o2), (0, .ref x0), (1, .ref x1), (2, .ref x2), (3, .int (iZ x3)), (4, .int (iZ x4))]) dX5_loadInParts_29 rfl rfl ?_
    refine qn_aload hX (pc := 31) dX5_loadInParts_31 0 rfl ?_
    refine qn_aload_n hX (pc := 33) dX5_loadInParts_33 3 rfl rfl ?_
    refine qn_acmp_ne hX (pc := 34) 47 dX5_loadInParts_34 (by decide) (fun c3 => ?_) (fun c3 => ?_)
    · have h := ite_f h c3
      refine qn_aload_n hX (pc := 47) dX5_loadInParts_47 2 rfl rfl ?_
      refine qn_iload hX (pc := 48) dX5_loadInParts_48 5 rfl ?_
      refine qn_aload_n hX (pc := 50) dX5_loadInParts_50 3 rfl rfl ?_
      refine qn_getI hX (pc := 51) fd_X5_loadInParts_65 dX5_loadInParts_51 k_x2 ?_
      refine qn_aload_n hX (pc := 54) dX5_loadInParts_54 3 rfl rfl ?_
      refine qn_getI hX (pc := 55) fd_X5_loadInParts_68 dX5_loadInParts_55 k_x2 ?_
      obtain ⟨v5, m4, e_m4, h⟩ := kb2_e h
      refine qn_callVi hX (pc := 58) [.int (iZ x4), .int (iZ (gI m0 402 x2)), .int (iZ (gI m0 403 x2))] [.int (iZ (gI m0 403 x2)), .int (iZ (gI m0 402 x2)), .int (iZ x4)] 3 dX5_loadInParts_58 gX5_loadInParts_X0_isAt rfl dd_X0_isAt ⟨rfl, rfl⟩ rfl rfl (by decide) k_x1 rfl rfl hR_m0 (k_X0_isAt (xl X) hT k_x1 r_x4 (hR_m0.i 402 _ rfl) (hR_m0.i 403 _ rfl) e_m4) (fun r_v5 hR_m4 => ?_)
      refine qn_if_eq hX (pc := 61) r_v5.i 81 dX5_loadInParts_61 (by decide) (fun c6 => ?_) (fun c6 => ?_)
      · have h := ite_t h c6
        refine qn_sub (ls' := [(0, .ref x0), (1, .ref x1), (2, .ref x2), (3, .int (iZ x3)), (4, .int (iZ x4))]) [1, 2, 3, 4, 5] rfl ?_
        exact w_X5_loadInParts_81 hX hE hk13 k_x0 k_x1 k_x2 r_x3 r_x4 hR_m4 h
      · have h := ite_f h c6
        refine qn_aload_n hX (pc := 64) dX5_loadInParts_64 1 rfl rfl ?_
        refine qn_aload hX (pc := 65) dX5_loadInParts_65 0 rfl ?_
        refine qn_aload hX (pc := 67) dX5_loadInParts_67 0 rfl ?_
        refine qn_getI hX (pc := 69) fd_X5_loadInParts_51 dX5_loadInParts_69 k_o2 ?_
        refine qn_aload_n hX (pc := 72) dX5_loadInParts_72 2 rfl rfl ?_
        refine qn_aload hX (pc := 73) dX5_loadInParts_73 0 rfl ?_
        obtain ⟨v8, m7, e_m7, h⟩ := kb2_e h
        refine qn_callVi hX (pc := 75) [.ref o2] [.ref o2] 1 dX5_loadInParts_75 gX5_loadInParts_X0_grantOf rfl dd_X0_grantOf ⟨rfl, rfl⟩ rfl rfl (by decide) k_x1 rfl rfl hR_m4 (k_X0_grantOf (xl X) hT k_x1 k_o2 e_m7) (fun r_v8 hR_m7 => ?_)
        obtain ⟨m9, e_m9, h⟩ := kb_e h
        refine qn_callVv hX (pc := 78) [.ref o2, .int (iZ (gI m4 404 o2)), .int (iZ v8)] [.int (iZ v8), .int (iZ (gI m4 404 o2)), .ref o2] 3 dX5_loadInParts_78 gX5_loadInParts_X5_put rfl dd_X5_put ⟨rfl, rfl⟩ rfl rfl (by decide) k_x0 rfl rfl hR_m7 (k_X5_put (xl X) hT k_x0 k_o2 (hR_m4.i 404 _ rfl) r_v8 e_m9) (fun r_v10 hR_m9 => ?_)
        refine qn_sub (ls' := [(0, .ref x0), (1, .ref x1), (2, .ref x2), (3, .int (iZ x3)), (4, .int (iZ x4))]) [1, 2, 3, 4, 5] rfl ?_
        exact w_X5_loadInParts_81 hX hE hk13 k_x0 k_x1 k_x2 r_x3 r_x4 hR_m9 h
    · have h := ite_t h c3
      refine qn_aload_n hX (pc := 37) dX5_loadInParts_37 1 rfl rfl ?_
      refine qn_aload hX (pc := 38) dX5_loadInParts_38 0 rfl ?_
      refine qn_iload_n hX (pc := 40) dX5_loadInParts_40 4 rfl rfl ?_
      obtain ⟨m11, e_m11, h⟩ := kb_e h
      refine qn_callVv hX (pc := 41) [.ref o2, .int (iZ x3)] [.int (iZ x3), .ref o2] 2 dX5_loadInParts_41 gX5_loadInParts_X5_putParts rfl dd_X5_putParts ⟨rfl, rfl⟩ rfl rfl (by decide) k_x0 rfl rfl hR_m0 (k_X5_putParts (xl X) hT k_x0 k_o2 r_x3 e_m11) (fun r_v12 hR_m11 => ?_)
      refine qn_goto hX (pc := 44) 81 dX5_loadInParts_44 (by decide) ?_
      refine qn_sub (ls' := [(0, .ref x0), (1, .ref x1), (2, .ref x2), (3, .int (iZ x3)), (4, .int (iZ x4))]) [1, 2, 3, 4, 5] rfl ?_
      exact w_X5_loadInParts_81 hX hE hk13 k_x0 k_x1 k_x2 r_x3 r_x4 hR_m11 h
set_option maxHeartbeats 4000000 in
set_option maxRecDepth 20000 in
theorem w_X5_loadInParts_L13 {X : qB} {N : Nat} (hX : qOk X cX5_loadInParts RX5 6 none wsX5_loadInParts 2 48) {r : qM} (hE : xr X = none ∧ (True → xΦ X) ∧ xμ X = r) 
    {x0 : Nat} {x1 : Nat} {x2 : Nat} {x3 : Int} {x4 : Int} (k_x0 : gK (xG X) x0 = 6) (k_x1 : gK (xG X) x1 = 1) (k_x2 : gK (xG X) x2 = 5) (r_x3 : in32 x3) (r_x4 : in32 x4) {m0 : qM} (hR_m0 : qR (xG X) m0)
    (h : f_X5_loadInParts_L13 N (xG X)  x0 x1 x2 x3 x4 m0 = some r) : qN X 6 13 [(0, .ref x0), (1, .ref x1), (2, .ref x2), (3, .int (iZ x3)), (4, .int (iZ x4))] [] m0 := by
  unfold f_X5_loadInParts_L13 at h
  exact qLoop_w (σ := Nat × Nat × Nat × Int × Int × qM) (P := fun p => gK (xG X) p.1 = 6 ∧ gK (xG X) p.2.1 = 1 ∧ gK (xG X) p.2.2.1 = 5 ∧ in32 p.2.2.2.1 ∧ in32 p.2.2.2.2.1 ∧ qR (xG X) p.2.2.2.2.2) (Q := fun p => qN X 6 13 [(0, .ref p.1), (1, .ref p.2.1), (2, .ref p.2.2.1), (3, .int (iZ p.2.2.2.1)), (4, .int (iZ p.2.2.2.2.1))] [] p.2.2.2.2.2) (fun k hrec p hp hh => w_X5_loadInParts_13 hX hE (fun x0 x1 x2 x3 x4 m0 q0 q1 q2 q3 q4 hRm hh => hrec (x0, x1, x2, x3, x4, m0) ⟨q0, q1, q2, q3, q4, hRm⟩ hh) hp.1 hp.2.1 hp.2.2.1 hp.2.2.2.1 hp.2.2.2.2.1 hp.2.2.2.2.2 hh) N (x0, x1, x2, x3, x4, m0) ⟨k_x0, k_x1, k_x2, r_x3, r_x4, hR_m0⟩ h
set_option maxHeartbeats 4000000 in
set_option maxRecDepth 20000 in
theorem w_X5_loadInParts {X : qB} {N : Nat} (hX : qOk X cX5_loadInParts RX5 6 none wsX5_loadInParts 2 48) {r : qM} (hE : xr X = none ∧ (True → xΦ X) ∧ xμ X = r) 
    {x0 : Nat} {x1 : Nat} {x2 : Nat} {x3 : Int} (k_x0 : gK (xG X) x0 = 6) (k_x1 : gK (xG X) x1 = 1) (k_x2 : gK (xG X) x2 = 5) (r_x3 : in32 x3) {m0 : qM} (hR_m0 : qR (xG X) m0)
    (h : f_X5_loadInParts N (xG X)  x0 x1 x2 x3 m0 = some r) : qN X 6 0 [(0, .ref x0), (1, .ref x1), (2, .ref x2), (3, .int (iZ x3))] [] m0 := by
  have hT := hX.T
  unfold f_X5_loadInParts at h
  refine qn_aload_n hX (pc := 0) dX5_loadInParts_0 0 rfl rfl ?_
  refine qn_iconst hX (pc := 1) dX5_loadInParts_1 ?_
  obtain ⟨m1, e_m1, h⟩ := kp_e h
  refine qn_putI hX (pc := 2) fp_X5_loadInParts_33 dX5_loadInParts_2 k_x0 hR_m0 (show in32 0 by decide) e_m1 (fun hR_m1 => ?_) 
  refine qn_aload_n hX (pc := 5) dX5_loadInParts_5 0 rfl rfl ?_
  refine qn_iconst hX (pc := 6) dX5_loadInParts_6 ?_
  obtain ⟨m2, e_m2, h⟩ := kp_e h
  refine qn_putI hX (pc := 7) fp_X5_loadInParts_37 dX5_loadInParts_7 k_x0 hR_m1 (show in32 0 by decide) e_m2 (fun hR_m2 => ?_) 
  refine qn_iconst hX (pc := 10) dX5_loadInParts_10 ?_
  refine qn_istore hX (pc := 11) (ls' := [(4, .int (iZ 0)), (0, .ref x0), (1, .ref x1), (2, .ref x2), (3, .int (iZ x3))]) dX5_loadInParts_11 rfl rfl ?_
  refine qn_sub (ls' := [(0, .ref x0), (1, .ref x1), (2, .ref x2), (3, .int (iZ x3)), (4, .int (iZ 0))]) [1, 2, 3, 4, 0] rfl ?_
  exact w_X5_loadInParts_L13 hX hE  k_x0 k_x1 k_x2 r_x3 (by decide) hR_m2 h
theorem k_X5_loadInParts (l : Launch) {G : qG} (hT : qT G) {N : Nat} {x0 : Nat} {x1 : Nat} {x2 : Nat} {x3 : Int} (k_x0 : gK G x0 = 6) (k_x1 : gK G x1 = 1) (k_x2 : gK G x2 = 5) (r_x3 : in32 x3) {m0 : qM} {r : qM} (h : f_X5_loadInParts N G x0 x1 x2 x3 m0 = some r) : qC l yX5_loadInParts wsX5_loadInParts 2 48 G [.ref x0, .ref x1, .ref x2, .int (iZ x3)] m0 none True r := by
  refine qn_start (hy := by decide) hT (hw := rfl) (hn := Nat.le_of_ble_eq_true rfl) ?_
  intro X h1 h2 h3 h4 hX hR
  subst h4
  exact w_X5_loadInParts hX ⟨h1, fun q => h2 ▸ q, h3⟩ k_x0 k_x1 k_x2 r_x3 hR h
theorem dd_X5_loadInParts : yX5_loadInParts.cls = RX5 ∧ yX5_loadInParts.cls ≠ "java/lang/invoke/MethodHandle" ∧ yX5_loadInParts.cls ≠ "java/lang/invoke/VarHandle" ∧ (parseMethodDescriptor yX5_loadInParts.desc).map (fun d => d.parameters.length) = some 3 := by decide +kernel
-- ProRataMarket$Sharing.partOf
theorem hi_X5_partOf_5 : ∀ w ∈ wsX50, w ∈ wsX5_partOf := fun w h => List.mem_cons_of_mem _ (List.mem_append_right _ h)
theorem fd_X5_partOf_33 : qFd RX5 wsX5_partOf 33 5 6 0 506 := ⟨RX5, TX5, 8, _, rfl, hi_X5_partOf_5, by decide, (by decide +kernel : Cond.fieldLink RX5 33 (TX5 6).1 (TX5 6).2.1 (TX5 6).2.2.1 ∈ wsX5_partOf), rfl, rfl, by decide⟩
theorem fd_X5_partOf_13 : qFd RX5 wsX5_partOf 13 5 0 1 500 := ⟨RX5, TX5, 8, _, rfl, hi_X5_partOf_5, by decide, (by decide +kernel : Cond.fieldLink RX5 13 (TX5 0).1 (TX5 0).2.1 (TX5 0).2.2.1 ∈ wsX5_partOf), rfl, rfl, by decide⟩
set_option maxHeartbeats 4000000 in
set_option maxRecDepth 20000 in
theorem w_X5_partOf_37 {X : qB} {N : Nat} (hX : qOk X cX5_partOf RX5 5 (some .int) wsX5_partOf 1 22) {r : Int} {nu : qM} (hE : xr X = some (.int (iZ r)) ∧ (in32 r → xΦ X) ∧ xμ X = nu) {k5 : (Nat → Nat → Int → Int → Int → qM → Option (Int × qM))} (hk5 : ∀ (x0 : Nat) (x1 : Nat) (x2 : Int) (x3 : Int) (x4 : Int) (m0 : qM), gK (xG X) x0 = 6 → gK (xG X) x1 = 5 → in32 x2 → in32 x3 → in32 x4 → qR (xG X) m0 → k5 x0 x1 x2 x3 x4 m0 = some (r, nu) → qN X 5 5 [(0, .ref x0), (1, .ref x1), (2, .int (iZ x2)), (3, .int (iZ x3)), (4, .int (iZ x4))] [] m0)
    {x0 : Nat} {x1 : Nat} {x2 : Int} {x4 : Int} {s0 : Int} {s1 : Int} (k_x0 : gK (xG X) x0 = 6) (k_x1 : gK (xG X) x1 = 5) (r_x2 : in32 x2) (r_x4 : in32 x4) (r_s0 : in32 s0) (r_s1 : in32 s1) {m0 : qM} (hR_m0 : qR (xG X) m0)
    (h : f_X5_partOf_37 N (xG X) k5 x0 x1 x2 x4 s0 s1 m0 = some (r, nu)) : qN X 5 37 [(0, .ref x0), (1, .ref x1), (2, .int (iZ x2)), (4, .int (iZ x4))] [.int (iZ s1), .int (iZ s0)] m0 := by
  have hT := hX.T
  unfold f_X5_partOf_37 at h
  obtain ⟨v1, e_v1, r_v1, h⟩ := ckI_e h
  refine qn_iadd hX (pc := 37) dX5_partOf_37 e_v1 ?_
  refine qn_istore_n hX (pc := 38) (ls' := [(3, .int (iZ v1)), (0, .ref x0), (1, .ref x1), (2, .int (iZ x2)), (4, .int (iZ x4))]) dX5_partOf_38 rfl rfl rfl ?_
  obtain ⟨v2, e_v2, r_v2, h⟩ := ckI_e h
  refine qn_iinc hX (pc := 39) (ls' := [(4, .int (iZ v2)), (3, .int (iZ v1)), (0, .ref x0), (1, .ref x1), (2, .int (iZ x2))]) dX5_partOf_39 4 rfl e_v2 rfl rfl ?_
  refine qn_goto hX (pc := 42) 5 dX5_partOf_42 (by decide) ?_
  refine qn_sub (ls' := [(0, .ref x0), (1, .ref x1), (2, .int (iZ x2)), (3, .int (iZ v1)), (4, .int (iZ v2))]) [2, 3, 4, 1, 0] rfl ?_
  exact hk5 x0 x1 x2 v1 v2 m0 k_x0 k_x1 r_x2 r_v1 r_v2 hR_m0 h
set_option maxHeartbeats 4000000 in
set_option maxRecDepth 20000 in
theorem w_X5_partOf_5 {X : qB} {N : Nat} (hX : qOk X cX5_partOf RX5 5 (some .int) wsX5_partOf 1 22) {r : Int} {nu : qM} (hE : xr X = some (.int (iZ r)) ∧ (in32 r → xΦ X) ∧ xμ X = nu) {k5 : (Nat → Nat → Int → Int → Int → qM → Option (Int × qM))} (hk5 : ∀ (x0 : Nat) (x1 : Nat) (x2 : Int) (x3 : Int) (x4 : Int) (m0 : qM), gK (xG X) x0 = 6 → gK (xG X) x1 = 5 → in32 x2 → in32 x3 → in32 x4 → qR (xG X) m0 → k5 x0 x1 x2 x3 x4 m0 = some (r, nu) → qN X 5 5 [(0, .ref x0), (1, .ref x1), (2, .int (iZ x2)), (3, .int (iZ x3)), (4, .int (iZ x4))] [] m0)
    {x0 : Nat} {x1 : Nat} {x2 : Int} {x3 : Int} {x4 : Int} (k_x0 : gK (xG X) x0 = 6) (k_x1 : gK (xG X) x1 = 5) (r_x2 : in32 x2) (r_x3 : in32 x3) (r_x4 : in32 x4) {m0 : qM} (hR_m0 : qR (xG X) m0)
    (h : f_X5_partOf_5 N (xG X) k5 x0 x1 x2 x3 x4 m0 = some (r, nu)) : qN X 5 5 [(0, .ref x0), (1, .ref x1), (2, .int (iZ x2)), (3, .int (iZ x3)), (4, .int (iZ x4))] [] m0 := by
  have hT := hX.T
  unfold f_X5_partOf_5 at h
  refine qn_iload hX (pc := 5) dX5_partOf_5 4 rfl ?_
  refine qn_aload_n hX (pc := 7) dX5_partOf_7 0 rfl rfl ?_
  refine qn_getI hX (pc := 8) fd_X5_partOf_33 dX5_partOf_8 k_x0 ?_
  refine qn_icmp_ge hX (pc := 11) r_x4 (hR_m0.i 506 _ rfl) 45 dX5_partOf_11 (by decide) (fun c1 => ?_) (fun c1 => ?_)
  · have h := ite_f h c1
    refine qn_iload_n hX (pc := 45) dX5_partOf_45 3 rfl rfl ?_
    exact qn_iret hX (pc := 46) dX5_partOf_46 hE hR_m0 r_x3 (Option.some.inj h)
  · have h := ite_t h c1
    refine qn_iload_n hX (pc := 14) dX5_partOf_14 3 rfl rfl ?_
    refine qn_aload_n hX (pc := 15) dX5_partOf_15 0 rfl rfl ?_
    refine qn_getR hX (pc := 16) fd_X5_partOf_13 dX5_partOf_16 k_x0 ?_
    refine qn_iload hX (pc := 19) dX5_partOf_19 4 rfl ?_
    obtain ⟨o2, e_o2, b_o2, k_o2, h⟩ := rdQ_e h
    refine qn_aaldO hX (pc := 21) 68 dX5_partOf_21 (qr_500 hT k_x0) (by decide) b_o2 e_o2 ?_
    refine qn_aload_n hX (pc := 22) dX5_partOf_22 1 rfl rfl ?_
    refine qn_acmp_ne hX (pc := 23) 36 dX5_partOf_23 (by decide) (fun c3 => ?_) (fun c3 => ?_)
    · have h := ite_f h c3
      refine qn_iconst hX (pc := 36) dX5_partOf_36 ?_
      refine qn_sub (ls' := [(0, .ref x0), (1, .ref x1), (2, .int (iZ x2)), (4, .int (iZ x4))]) [0, 1, 2, 4] rfl ?_
      exact w_X5_partOf_37 hX hE hk5 k_x0 k_x1 r_x2 r_x4 r_x3 (by decide) hR_m0 h
    · have h := ite_t h c3
      refine qn_aload_n hX (pc := 26) dX5_partOf_26 0 rfl rfl ?_
      refine qn_iload hX (pc := 27) dX5_partOf_27 4 rfl ?_
      refine qn_iload_n hX (pc := 29) dX5_partOf_29 2 rfl rfl ?_
      obtain ⟨v5, m4, e_m4, h⟩ := kb2_e h
      refine qn_callVi hX (pc := 30) [.int (iZ x4), .int (iZ x2)] [.int (iZ x2), .int (iZ x4)] 2 dX5_partOf_30 gX5_partOf_X5_partAt rfl dd_X5_partAt ⟨rfl, rfl⟩ rfl rfl (by decide) k_x0 rfl rfl hR_m0 (k_X5_partAt (xl X) hT k_x0 r_x4 r_x2 e_m4) (fun r_v5 hR_m4 => ?_)
      refine qn_goto hX (pc := 33) 37 dX5_partOf_33 (by decide) ?_
      refine qn_sub (ls' := [(0, .ref x0), (1, .ref x1), (2, .int (iZ x2)), (4, .int (iZ x4))]) [0, 1, 2, 4] rfl ?_
      exact w_X5_partOf_37 hX hE hk5 k_x0 k_x1 r_x2 r_x4 r_x3 r_v5 hR_m4 h
set_option maxHeartbeats 4000000 in
set_option maxRecDepth 20000 in
theorem w_X5_partOf_L5 {X : qB} {N : Nat} (hX : qOk X cX5_partOf RX5 5 (some .int) wsX5_partOf 1 22) {r : Int} {nu : qM} (hE : xr X = some (.int (iZ r)) ∧ (in32 r → xΦ X) ∧ xμ X = nu) 
    {x0 : Nat} {x1 : Nat} {x2 : Int} {x3 : Int} {x4 : Int} (k_x0 : gK (xG X) x0 = 6) (k_x1 : gK (xG X) x1 = 5) (r_x2 : in32 x2) (r_x3 : in32 x3) (r_x4 : in32 x4) {m0 : qM} (hR_m0 : qR (xG X) m0)
    (h : f_X5_partOf_L5 N (xG X)  x0 x1 x2 x3 x4 m0 = some (r, nu)) : qN X 5 5 [(0, .ref x0), (1, .ref x1), (2, .int (iZ x2)), (3, .int (iZ x3)), (4, .int (iZ x4))] [] m0 := by
  unfold f_X5_partOf_L5 at h
  exact qLoop_w (σ := Nat × Nat × Int × Int × Int × qM) (P := fun p => gK (xG X) p.1 = 6 ∧ gK (xG X) p.2.1 = 5 ∧ in32 p.2.2.1 ∧ in32 p.2.2.2.1 ∧ in32 p.2.2.2.2.1 ∧ qR (xG X) p.2.2.2.2.2) (Q := fun p => qN X 5 5 [(0, .ref p.1), (1, .ref p.2.1), (2, .int (iZ p.2.2.1)), (3, .int (iZ p.2.2.2.1)), (4, .int (iZ p.2.2.2.2.1))] [] p.2.2.2.2.2) (fun k hrec p hp hh => w_X5_partOf_5 hX hE (fun x0 x1 x2 x3 x4 m0 q0 q1 q2 q3 q4 hRm hh => hrec (x0, x1, x2, x3, x4, m0) ⟨q0, q1, q2, q3, q4, hRm⟩ hh) hp.1 hp.2.1 hp.2.2.1 hp.2.2.2.1 hp.2.2.2.2.1 hp.2.2.2.2.2 hh) N (x0, x1, x2, x3, x4, m0) ⟨k_x0, k_x1, r_x2, r_x3, r_x4, hR_m0⟩ h
set_option maxHeartbeats 4000000 in
set_option maxRecDepth 20000 in
theorem w_X5_partOf {X : qB} {N : Nat} (hX : qOk X cX5_partOf RX5 5 (some .int) wsX5_partOf 1 22) {r : Int} {nu : qM} (hE : xr X = some (.int (iZ r)) ∧ (in32 r → xΦ X) ∧ xμ X = nu) 
    {x0 : Nat} {x1 : Nat} {x2 : Int} (k_x0 : gK (xG X) x0 = 6) (k_x1 : gK (xG X) x1 = 5) (r_x2 : in32 x2) {m0 : qM} (hR_m0 : qR (xG X) m0)
    (h : f_X5_partOf N (xG X)  x0 x1 x2 m0 = some (r, nu)) : qN X 5 0 [(0, .ref x0), (1, .ref x1), (2, .int (iZ x2))] [] m0 := by
  have hT := hX.T
  unfold f_X5_partOf at h
  refine qn_iconst hX (pc := 0) dX5_partOf_0 ?_
  refine qn_istore_n hX (pc := 1) (ls' := [(3, .int (iZ 0)), (0, .ref x0), (1, .ref x1), (2, .int (iZ x2))]) dX5_partOf_1 rfl rfl rfl ?_
  refine qn_iconst hX (pc := 2) dX5_partOf_2 ?_
  refine qn_istore hX (pc := 3) (ls' := [(4, .int (iZ 0)), (3, .int (iZ 0)), (0, .ref x0), (1, .ref x1), (2, .int (iZ x2))]) dX5_partOf_3 rfl rfl ?_
  refine qn_sub (ls' := [(0, .ref x0), (1, .ref x1), (2, .int (iZ x2)), (3, .int (iZ 0)), (4, .int (iZ 0))]) [2, 3, 4, 1, 0] rfl ?_
  exact w_X5_partOf_L5 hX hE  k_x0 k_x1 r_x2 (by decide) (by decide) hR_m0 h
theorem k_X5_partOf (l : Launch) {G : qG} (hT : qT G) {N : Nat} {x0 : Nat} {x1 : Nat} {x2 : Int} (k_x0 : gK G x0 = 6) (k_x1 : gK G x1 = 5) (r_x2 : in32 x2) {m0 : qM} {r : Int} {nu : qM} (h : f_X5_partOf N G x0 x1 x2 m0 = some (r, nu)) : qC l yX5_partOf wsX5_partOf 1 22 G [.ref x0, .ref x1, .int (iZ x2)] m0 (some (.int (iZ r))) (in32 r) nu := by
  refine qn_start (hy := by decide) hT (hw := rfl) (hn := Nat.le_of_ble_eq_true rfl) ?_
  intro X h1 h2 h3 h4 hX hR
  subst h4
  exact w_X5_partOf hX ⟨h1, fun q => h2 ▸ q, h3⟩ k_x0 k_x1 r_x2 hR h
theorem dd_X5_partOf : yX5_partOf.cls = RX5 ∧ yX5_partOf.cls ≠ "java/lang/invoke/MethodHandle" ∧ yX5_partOf.cls ≠ "java/lang/invoke/VarHandle" ∧ (parseMethodDescriptor yX5_partOf.desc).map (fun d => d.parameters.length) = some 2 := by decide +kernel
-- ProRataMarket$Tape.dearest
set_option maxHeartbeats 4000000 in
set_option maxRecDepth 20000 in
theorem w_X6_dearest {X : qB} {N : Nat} (hX : qOk X cX6_dearest RX6 1 (some .int) wsX6_dearest 1 24) {r : Int} {nu : qM} (hE : xr X = some (.int (iZ r)) ∧ (in32 r → xΦ X) ∧ xμ X = nu) 
    {x0 : Int} (r_x0 : in32 x0) {m0 : qM} (hR_m0 : qR (xG X) m0)
    (h : f_X6_dearest N (xG X)  x0 m0 = some (r, nu)) : qN X 1 0 [(0, .int (iZ x0))] [] m0 := by
  have hT := hX.T
  unfold f_X6_dearest at h
  refine qn_iload_n hX (pc := 0) dX6_dearest_0 0 rfl rfl ?_
  refine qn_iconst hX (pc := 1) dX6_dearest_1 ?_
  refine qn_icmp_ge hX (pc := 2) r_x0 (by decide) 10 dX6_dearest_2 (by decide) (fun c1 => ?_) (fun c1 => ?_)
  · have h := ite_f h c1
    refine qn_ldc hX (pc := 10) 9999999 dX6_dearest_10 (by decide +kernel : Cond.constant RX6 76 (9999999) ∈ wsX6_dearest) (by decide) ?_
    refine qn_ldc hX (pc := 12) 2147483647 dX6_dearest_12 (by decide +kernel : Cond.constant RX6 77 (2147483647) ∈ wsX6_dearest) (by decide) ?_
    refine qn_iload_n hX (pc := 14) dX6_dearest_14 0 rfl rfl ?_
    obtain ⟨n_v2, h⟩ := ckD_e h
    obtain ⟨v2, e_v2, r_v2, h⟩ := ckI_e h
    refine qn_idiv hX (pc := 15) (by decide) r_x0 n_v2 dX6_dearest_15 e_v2 ?_
    obtain ⟨v3, e_v3, h⟩ := kp_e h
    have r_v3 : in32 v3 := by rw [e_v3]; exact in32_min (by decide) r_v2
    refine qn_min hX (pc := 16) (by decide) r_v2 dX6_dearest_16 (by decide +kernel) (by decide +kernel) (by decide +kernel) (by decide +kernel) ⟨rfl, rfl⟩ e_v3 ?_
    exact qn_iret hX (pc := 19) dX6_dearest_19 hE hR_m0 r_v3 (Option.some.inj h)
  · have h := ite_t h c1
    refine qn_ldc hX (pc := 5) 9999999 dX6_dearest_5 (by decide +kernel : Cond.constant RX6 76 (9999999) ∈ wsX6_dearest) (by decide) ?_
    refine qn_goto hX (pc := 7) 19 dX6_dearest_7 (by decide) ?_
    exact qn_iret hX (pc := 19) dX6_dearest_19 hE hR_m0 (by decide) (Option.some.inj h)
theorem k_X6_dearest (l : Launch) {G : qG} (hT : qT G) {N : Nat} {x0 : Int} (r_x0 : in32 x0) {m0 : qM} {r : Int} {nu : qM} (h : f_X6_dearest N G x0 m0 = some (r, nu)) : qC l yX6_dearest wsX6_dearest 1 24 G [.int (iZ x0)] m0 (some (.int (iZ r))) (in32 r) nu := by
  refine qn_start (hy := by decide) hT (hw := rfl) (hn := Nat.le_of_ble_eq_true rfl) ?_
  intro X h1 h2 h3 h4 hX hR
  subst h4
  exact w_X6_dearest hX ⟨h1, fun q => h2 ▸ q, h3⟩ r_x0 hR h
theorem dd_X6_dearest : yX6_dearest.cls ≠ "java/lang/invoke/MethodHandle" ∧ yX6_dearest.cls ≠ "java/lang/invoke/VarHandle" ∧ (parseMethodDescriptor yX6_dearest.desc).map (fun d => d.parameters.length) = some 1 := by decide +kernel
-- ProRataMarket$Tape.failBy
theorem hi_X6_failBy_6 : ∀ w ∈ wsX60, w ∈ wsX6_failBy := fun w h => List.mem_cons_of_mem _ (List.mem_append_right _ h)
theorem fd_X6_failBy_62 : qFd RX6 wsX6_failBy 62 6 5 0 605 := ⟨RX6, TX6, 12, _, rfl, hi_X6_failBy_6, by decide, (by decide +kernel : Cond.fieldLink RX6 62 (TX6 5).1 (TX6 5).2.1 (TX6 5).2.2.1 ∈ wsX6_failBy), rfl, rfl, by decide⟩
theorem fp_X6_failBy_65 : qFp RX6 wsX6_failBy 65 6 11 0 611 .int := ⟨RX6, TX6, 12, _, tyX6, rfl, hi_X6_failBy_6, by decide, (by decide +kernel : Cond.fieldLink RX6 65 (TX6 11).1 (TX6 11).2.1 (TX6 11).2.2.1 ∈ wsX6_failBy), rfl, rfl, by decide, tyX6_ok, nmX6, rfl, by decide +kernel⟩
set_option maxHeartbeats 4000000 in
set_option maxRecDepth 20000 in
theorem w_X6_failBy {X : qB} {N : Nat} (hX : qOk X cX6_failBy RX6 2 (some .boolean) wsX6_failBy 0 0) {r : Int} {nu : qM} (hE : xr X = some (.int (iZ r)) ∧ (in01 r → xΦ X) ∧ xμ X = nu) 
    {x0 : Nat} {x1 : Int} (k_x0 : gK (xG X) x0 = 7) (r_x1 : in32 x1) {m0 : qM} (hR_m0 : qR (xG X) m0)
    (h : f_X6_failBy N (xG X)  x0 x1 m0 = some (r, nu)) : qN X 2 0 [(0, .ref x0), (1, .int (iZ x1))] [] m0 := by
  have hT := hX.T
  unfold f_X6_failBy at h
  refine qn_aload_n hX (pc := 0) dX6_failBy_0 0 rfl rfl ?_
  refine qn_bipush hX (pc := 1) dX6_failBy_1 (by decide) ?_
  refine qn_aload_n hX (pc := 3) dX6_failBy_3 0 rfl rfl ?_
  refine qn_getI hX (pc := 4) fd_X6_failBy_62 dX6_failBy_4 k_x0 ?_
  obtain ⟨v1, e_v1, r_v1, h⟩ := ckI_e h
  refine qn_imul hX (pc := 7) dX6_failBy_7 e_v1 ?_
  refine qn_iload_n hX (pc := 8) dX6_failBy_8 1 rfl rfl ?_
  obtain ⟨v2, e_v2, r_v2, h⟩ := ckI_e h
  refine qn_iadd hX (pc := 9) dX6_failBy_9 e_v2 ?_
  obtain ⟨m3, e_m3, h⟩ := kp_e h
  refine qn_putI hX (pc := 10) fp_X6_failBy_65 dX6_failBy_10 k_x0 hR_m0 r_v2 e_m3 (fun hR_m3 => ?_) 
  refine qn_iconst hX (pc := 13) dX6_failBy_13 ?_
  exact qn_zret hX (pc := 14) dX6_failBy_14 hE hR_m3 (by decide) (Option.some.inj h)
theorem k_X6_failBy (l : Launch) {G : qG} (hT : qT G) {N : Nat} {x0 : Nat} {x1 : Int} (k_x0 : gK G x0 = 7) (r_x1 : in32 x1) {m0 : qM} {r : Int} {nu : qM} (h : f_X6_failBy N G x0 x1 m0 = some (r, nu)) : qC l yX6_failBy wsX6_failBy 0 0 G [.ref x0, .int (iZ x1)] m0 (some (.int (iZ r))) (in01 r) nu := by
  refine qn_start (hy := by decide) hT (hw := rfl) (hn := Nat.le_of_ble_eq_true rfl) ?_
  intro X h1 h2 h3 h4 hX hR
  subst h4
  exact w_X6_failBy hX ⟨h1, fun q => h2 ▸ q, h3⟩ k_x0 r_x1 hR h
theorem dd_X6_failBy : yX6_failBy.cls = RX6 ∧ yX6_failBy.cls ≠ "java/lang/invoke/MethodHandle" ∧ yX6_failBy.cls ≠ "java/lang/invoke/VarHandle" ∧ (parseMethodDescriptor yX6_failBy.desc).map (fun d => d.parameters.length) = some 1 := by decide +kernel
-- ProRataMarket$Tape.isDigit
set_option maxHeartbeats 4000000 in
set_option maxRecDepth 20000 in
theorem w_X6_isDigit {X : qB} {N : Nat} (hX : qOk X cX6_isDigit RX6 1 (some .boolean) wsX6_isDigit 0 0) {r : Int} {nu : qM} (hE : xr X = some (.int (iZ r)) ∧ (in01 r → xΦ X) ∧ xμ X = nu) 
    {x0 : Int} (r_x0 : in32 x0) {m0 : qM} (hR_m0 : qR (xG X) m0)
    (h : f_X6_isDigit N (xG X)  x0 m0 = some (r, nu)) : qN X 1 0 [(0, .int (iZ x0))] [] m0 := by
  have hT := hX.T
  unfold f_X6_isDigit at h
  refine qn_iload_n hX (pc := 0) dX6_isDigit_0 0 rfl rfl ?_
  refine qn_bipush hX (pc := 1) dX6_isDigit_1 (by decide) ?_
  refine qn_icmp_lt hX (pc := 3) r_x0 (by decide) 16 dX6_isDigit_3 (by decide) (fun c1 => ?_) (fun c1 => ?_)
  · have h := ite_t h c1
    refine qn_iconst hX (pc := 16) dX6_isDigit_16 ?_
    exact qn_zret hX (pc := 17) dX6_isDigit_17 hE hR_m0 (by decide) (Option.some.inj h)
  · have h := ite_f h c1
    refine qn_iload_n hX (pc := 6) dX6_isDigit_6 0 rfl rfl ?_
    refine qn_bipush hX (pc := 7) dX6_isDigit_7 (by decide) ?_
    refine qn_icmp_gt hX (pc := 9) r_x0 (by decide) 16 dX6_isDigit_9 (by decide) (fun c2 => ?_) (fun c2 => ?_)
    · have h := ite_t h c2
      refine qn_iconst hX (pc := 16) dX6_isDigit_16 ?_
      exact qn_zret hX (pc := 17) dX6_isDigit_17 hE hR_m0 (by decide) (Option.some.inj h)
    · have h := ite_f h c2
      refine qn_iconst hX (pc := 12) dX6_isDigit_12 ?_
      refine qn_goto hX (pc := 13) 17 dX6_isDigit_13 (by decide) ?_
      exact qn_zret hX (pc := 17) dX6_isDigit_17 hE hR_m0 (by decide) (Option.some.inj h)
theorem k_X6_isDigit (l : Launch) {G : qG} (hT : qT G) {N : Nat} {x0 : Int} (r_x0 : in32 x0) {m0 : qM} {r : Int} {nu : qM} (h : f_X6_isDigit N G x0 m0 = some (r, nu)) : qC l yX6_isDigit wsX6_isDigit 0 0 G [.int (iZ x0)] m0 (some (.int (iZ r))) (in01 r) nu := by
  refine qn_start (hy := by decide) hT (hw := rfl) (hn := Nat.le_of_ble_eq_true rfl) ?_
  intro X h1 h2 h3 h4 hX hR
  subst h4
  exact w_X6_isDigit hX ⟨h1, fun q => h2 ▸ q, h3⟩ r_x0 hR h
theorem dd_X6_isDigit : yX6_isDigit.cls ≠ "java/lang/invoke/MethodHandle" ∧ yX6_isDigit.cls ≠ "java/lang/invoke/VarHandle" ∧ (parseMethodDescriptor yX6_isDigit.desc).map (fun d => d.parameters.length) = some 1 := by decide +kernel
-- ProRataMarket$Tape.isLetter
set_option maxHeartbeats 4000000 in
set_option maxRecDepth 20000 in
theorem w_X6_isLetter {X : qB} {N : Nat} (hX : qOk X cX6_isLetter RX6 1 (some .boolean) wsX6_isLetter 0 0) {r : Int} {nu : qM} (hE : xr X = some (.int (iZ r)) ∧ (in01 r → xΦ X) ∧ xμ X = nu) 
    {x0 : Int} (r_x0 : in32 x0) {m0 : qM} (hR_m0 : qR (xG X) m0)
    (h : f_X6_isLetter N (xG X)  x0 m0 = some (r, nu)) : qN X 1 0 [(0, .int (iZ x0))] [] m0 := by
  have hT := hX.T
  unfold f_X6_isLetter at h
  refine qn_iload_n hX (pc := 0) dX6_isLetter_0 0 rfl rfl ?_
  refine qn_bipush hX (pc := 1) dX6_isLetter_1 (by decide) ?_
  refine qn_icmp_lt hX (pc := 3) r_x0 (by decide) 16 dX6_isLetter_3 (by decide) (fun c1 => ?_) (fun c1 => ?_)
  · have h := ite_t h c1
    refine qn_iconst hX (pc := 16) dX6_isLetter_16 ?_
    exact qn_zret hX (pc := 17) dX6_isLetter_17 hE hR_m0 (by decide) (Option.some.inj h)
  · have h := ite_f h c1
    refine qn_iload_n hX (pc := 6) dX6_isLetter_6 0 rfl rfl ?_
    refine qn_bipush hX (pc := 7) dX6_isLetter_7 (by decide) ?_
    refine qn_icmp_gt hX (pc := 9) r_x0 (by decide) 16 dX6_isLetter_9 (by decide) (fun c2 => ?_) (fun c2 => ?_)
    · have h := ite_t h c2
      refine qn_iconst hX (pc := 16) dX6_isLetter_16 ?_
      exact qn_zret hX (pc := 17) dX6_isLetter_17 hE hR_m0 (by decide) (Option.some.inj h)
    · have h := ite_f h c2
      refine qn_iconst hX (pc := 12) dX6_isLetter_12 ?_
      refine qn_goto hX (pc := 13) 17 dX6_isLetter_13 (by decide) ?_
      exact qn_zret hX (pc := 17) dX6_isLetter_17 hE hR_m0 (by decide) (Option.some.inj h)
theorem k_X6_isLetter (l : Launch) {G : qG} (hT : qT G) {N : Nat} {x0 : Int} (r_x0 : in32 x0) {m0 : qM} {r : Int} {nu : qM} (h : f_X6_isLetter N G x0 m0 = some (r, nu)) : qC l yX6_isLetter wsX6_isLetter 0 0 G [.int (iZ x0)] m0 (some (.int (iZ r))) (in01 r) nu := by
  refine qn_start (hy := by decide) hT (hw := rfl) (hn := Nat.le_of_ble_eq_true rfl) ?_
  intro X h1 h2 h3 h4 hX hR
  subst h4
  exact w_X6_isLetter hX ⟨h1, fun q => h2 ▸ q, h3⟩ r_x0 hR h
theorem dd_X6_isLetter : yX6_isLetter.cls ≠ "java/lang/invoke/MethodHandle" ∧ yX6_isLetter.cls ≠ "java/lang/invoke/VarHandle" ∧ (parseMethodDescriptor yX6_isLetter.desc).map (fun d => d.parameters.length) = some 1 := by decide +kernel
-- ProRataMarket$Tape.isWord
theorem hi_X6_isWord_6 : ∀ w ∈ wsX60, w ∈ wsX6_isWord := fun w h => List.mem_cons_of_mem _ (List.mem_append_right _ h)
theorem fd_X6_isWord_9 : qFd RX6 wsX6_isWord 9 6 0 1 600 := ⟨RX6, TX6, 12, _, rfl, hi_X6_isWord_6, by decide, (by decide +kernel : Cond.fieldLink RX6 9 (TX6 0).1 (TX6 0).2.1 (TX6 0).2.2.1 ∈ wsX6_isWord), rfl, rfl, by decide⟩
theorem fd_X6_isWord_62 : qFd RX6 wsX6_isWord 62 6 5 0 605 := ⟨RX6, TX6, 12, _, rfl, hi_X6_isWord_6, by decide, (by decide +kernel : Cond.fieldLink RX6 62 (TX6 5).1 (TX6 5).2.1 (TX6 5).2.2.1 ∈ wsX6_isWord), rfl, rfl, by decide⟩
theorem fd_X6_isWord_59 : qFd RX6 wsX6_isWord 59 6 4 0 604 := ⟨RX6, TX6, 12, _, rfl, hi_X6_isWord_6, by decide, (by decide +kernel : Cond.fieldLink RX6 59 (TX6 4).1 (TX6 4).2.1 (TX6 4).2.2.1 ∈ wsX6_isWord), rfl, rfl, by decide⟩
theorem fd_X6_isWord_31 : qFd RX6 wsX6_isWord 31 6 3 0 603 := ⟨RX6, TX6, 12, _, rfl, hi_X6_isWord_6, by decide, (by decide +kernel : Cond.fieldLink RX6 31 (TX6 3).1 (TX6 3).2.1 (TX6 3).2.2.1 ∈ wsX6_isWord), rfl, rfl, by decide⟩
set_option maxHeartbeats 4000000 in
set_option maxRecDepth 20000 in
theorem w_X6_isWord_28 {X : qB} {N : Nat} (hX : qOk X cX6_isWord RX6 3 (some .boolean) wsX6_isWord 4 111) {r : Int} {nu : qM} (hE : xr X = some (.int (iZ r)) ∧ (in01 r → xΦ X) ∧ xμ X = nu) {k28 : (Nat → Nat → Int → qM → Option (Int × qM))} (hk28 : ∀ (x0 : Nat) (x1 : Nat) (x2 : Int) (m0 : qM), gK (xG X) x0 = 7 → x1 < 12 → in32 x2 → qR (xG X) m0 → k28 x0 x1 x2 m0 = some (r, nu) → qN X 3 28 [(0, .ref x0), (1, .ref (gS (xG X) x1)), (2, .int (iZ x2))] [] m0)
    {x0 : Nat} {x1 : Nat} {x2 : Int} (k_x0 : gK (xG X) x0 = 7) (k_x1 : x1 < 12) (r_x2 : in32 x2) {m0 : qM} (hR_m0 : qR (xG X) m0)
    (h : f_X6_isWord_28 N (xG X) k28 x0 x1 x2 m0 = some (r, nu)) : qN X 3 28 [(0, .ref x0), (1, .ref (gS (xG X) x1)), (2, .int (iZ x2))] [] m0 := by
  have hT := hX.T
  unfold f_X6_isWord_28 at h
  refine qn_iload_n hX (pc := 28) dX6_isWord_28 2 rfl rfl ?_
  refine qn_aload_n hX (pc := 29) dX6_isWord_29 1 rfl rfl ?_
  refine qn_callT hX (pc := 30) k_x1 [] [] 0 dX6_isWord_30 gX6_isWord_J0_length_8abf5 rfl dd_J0_length_8abf5 ⟨rfl, rfl⟩ rfl rfl rfl hR_m0 (k_J0_length (xl X) hT k_x1) (fun _ hR_m0 => ?_)
  refine qn_icmp_ge hX (pc := 33) r_x2 (tLen_32 k_x1) 63 dX6_isWord_33 (by decide) (fun c1 => ?_) (fun c1 => ?_)
  · have h := ite_f h c1
    refine qn_iconst hX (pc := 63) dX6_isWord_63 ?_
    exact qn_zret hX (pc := 64) dX6_isWord_64 hE hR_m0 (by decide) (Option.some.inj h)
  · have h := ite_t h c1
    refine qn_aload_n hX (pc := 36) dX6_isWord_36 0 rfl rfl ?_
    refine qn_getR hX (pc := 37) fd_X6_isWord_9 dX6_isWord_37 k_x0 ?_
    refine qn_aload_n hX (pc := 40) dX6_isWord_40 0 rfl rfl ?_
    refine qn_getI hX (pc := 41) fd_X6_isWord_62 dX6_isWord_41 k_x0 ?_
    refine qn_iload_n hX (pc := 44) dX6_isWord_44 2 rfl rfl ?_
    obtain ⟨v2, e_v2, r_v2, h⟩ := ckI_e h
    refine qn_iadd hX (pc := 45) dX6_isWord_45 e_v2 ?_
    obtain ⟨v3, e_v3, b_v3, h⟩ := rdA_e h
    have r_v3 : in32 v3 := by rw [e_v3]; exact hR_m0.a (n := 500) _ (qr_600 hT k_x0) (by decide)
    refine qn_iald hX (pc := 46) 500 dX6_isWord_46 (qr_600 hT k_x0) (by decide) b_v3 e_v3 ?_
    refine qn_aload_n hX (pc := 47) dX6_isWord_47 1 rfl rfl ?_
    refine qn_iload_n hX (pc := 48) dX6_isWord_48 2 rfl rfl ?_
    obtain ⟨v4, e_v4, b_v4, h⟩ := rdS_e h
    have r_v4 : in32 v4 := by rw [e_v4]; exact tCh_32 k_x1
    refine qn_callT hX (pc := 49) (r := v4) k_x1 [.int (iZ x2)] [.int (iZ x2)] 1 dX6_isWord_49 gX6_isWord_J0_charAt_5068e rfl dd_J0_charAt_5068e ⟨rfl, rfl⟩ rfl rfl rfl hR_m0 (by rw [e_v4]; exact k_J0_charAt (xl X) hT k_x1 b_v4) (fun _ hR_m0 => ?_)
    refine qn_icmp_eq hX (pc := 52) r_v3 r_v4 57 dX6_isWord_52 (by decide) (fun c5 => ?_) (fun c5 => ?_)
    · have h := ite_t h c5
      obtain ⟨v6, e_v6, r_v6, h⟩ := ckI_e h
      refine qn_iinc hX (pc := 57) (ls' := [(2, .int (iZ v6)), (0, .ref x0), (1, .ref (gS (xG X) x1))]) dX6_isWord_57 2 rfl e_v6 rfl rfl ?_
      refine qn_goto hX (pc := 60) 28 dX6_isWord_60 (by decide) ?_
      refine qn_sub (ls' := [(0, .ref x0), (1, .ref (gS (xG X) x1)), (2, .int (iZ v6))]) [1, 2, 0] rfl ?_
      exact hk28 x0 x1 v6 m0 k_x0 k_x1 r_v6 hR_m0 h
    · have h := ite_f h c5
      refine qn_iconst hX (pc := 55) dX6_isWord_55 ?_
      exact qn_zret hX (pc := 56) dX6_isWord_56 hE hR_m0 (by decide) (Option.some.inj h)
set_option maxHeartbeats 4000000 in
set_option maxRecDepth 20000 in
theorem w_X6_isWord_L28 {X : qB} {N : Nat} (hX : qOk X cX6_isWord RX6 3 (some .boolean) wsX6_isWord 4 111) {r : Int} {nu : qM} (hE : xr X = some (.int (iZ r)) ∧ (in01 r → xΦ X) ∧ xμ X = nu) 
    {x0 : Nat} {x1 : Nat} {x2 : Int} (k_x0 : gK (xG X) x0 = 7) (k_x1 : x1 < 12) (r_x2 : in32 x2) {m0 : qM} (hR_m0 : qR (xG X) m0)
    (h : f_X6_isWord_L28 N (xG X)  x0 x1 x2 m0 = some (r, nu)) : qN X 3 28 [(0, .ref x0), (1, .ref (gS (xG X) x1)), (2, .int (iZ x2))] [] m0 := by
  unfold f_X6_isWord_L28 at h
  exact qLoop_w (σ := Nat × Nat × Int × qM) (P := fun p => gK (xG X) p.1 = 7 ∧ p.2.1 < 12 ∧ in32 p.2.2.1 ∧ qR (xG X) p.2.2.2) (Q := fun p => qN X 3 28 [(0, .ref p.1), (1, .ref (gS (xG X) p.2.1)), (2, .int (iZ p.2.2.1))] [] p.2.2.2) (fun k hrec p hp hh => w_X6_isWord_28 hX hE (fun x0 x1 x2 m0 q0 q1 q2 hRm hh => hrec (x0, x1, x2, m0) ⟨q0, q1, q2, hRm⟩ hh) hp.1 hp.2.1 hp.2.2.1 hp.2.2.2 hh) N (x0, x1, x2, m0) ⟨k_x0, k_x1, r_x2, hR_m0⟩ h
set_option maxHeartbeats 4000000 in
set_option maxRecDepth 20000 in
theorem w_X6_isWord {X : qB} {N : Nat} (hX : qOk X cX6_isWord RX6 3 (some .boolean) wsX6_isWord 4 111) {r : Int} {nu : qM} (hE : xr X = some (.int (iZ r)) ∧ (in01 r → xΦ X) ∧ xμ X = nu) 
    {x0 : Nat} {x1 : Nat} (k_x0 : gK (xG X) x0 = 7) (k_x1 : x1 < 12) {m0 : qM} (hR_m0 : qR (xG X) m0)
    (h : f_X6_isWord N (xG X)  x0 x1 m0 = some (r, nu)) : qN X 3 0 [(0, .ref x0), (1, .ref (gS (xG X) x1))] [] m0 := by
  have hT := hX.T
  unfold f_X6_isWord at h
  refine qn_aload_n hX (pc := 0) dX6_isWord_0 0 rfl rfl ?_
  refine qn_getI hX (pc := 1) fd_X6_isWord_59 dX6_isWord_1 k_x0 ?_
  refine qn_iconst hX (pc := 4) dX6_isWord_4 ?_
  refine qn_icmp_ne hX (pc := 5) (hR_m0.i 604 _ rfl) (by decide) 24 dX6_isWord_5 (by decide) (fun c1 => ?_) (fun c1 => ?_)
  · have h := ite_f h c1
    refine qn_iconst hX (pc := 24) dX6_isWord_24 ?_
    exact qn_zret hX (pc := 25) dX6_isWord_25 hE hR_m0 (by decide) (Option.some.inj h)
  · have h := ite_t h c1
    refine qn_aload_n hX (pc := 8) dX6_isWord_8 0 rfl rfl ?_
    refine qn_getI hX (pc := 9) fd_X6_isWord_31 dX6_isWord_9 k_x0 ?_
    refine qn_aload_n hX (pc := 12) dX6_isWord_12 0 rfl rfl ?_
    refine qn_getI hX (pc := 13) fd_X6_isWord_62 dX6_isWord_13 k_x0 ?_
    obtain ⟨v2, e_v2, r_v2, h⟩ := ckI_e h
    refine qn_isub hX (pc := 16) dX6_isWord_16 e_v2 ?_
    refine qn_aload_n hX (pc := 17) dX6_isWord_17 1 rfl rfl ?_
    refine qn_callT hX (pc := 18) k_x1 [] [] 0 dX6_isWord_18 gX6_isWord_J0_length_8abf5 rfl dd_J0_length_8abf5 ⟨rfl, rfl⟩ rfl rfl rfl hR_m0 (k_J0_length (xl X) hT k_x1) (fun _ hR_m0 => ?_)
    refine qn_icmp_eq hX (pc := 21) r_v2 (tLen_32 k_x1) 26 dX6_isWord_21 (by decide) (fun c3 => ?_) (fun c3 => ?_)
    · have h := ite_t h c3
      refine qn_iconst hX (pc := 26) dX6_isWord_26 ?_
      refine qn_istore_n hX (pc := 27) (ls' := [(2, .int (iZ 0)), (0, .ref x0), (1, .ref (gS (xG X) x1))]) dX6_isWord_27 rfl rfl rfl ?_
      refine qn_sub (ls' := [(0, .ref x0), (1, .ref (gS (xG X) x1)), (2, .int (iZ 0))]) [1, 2, 0] rfl ?_
      exact w_X6_isWord_L28 hX hE  k_x0 k_x1 (by decide) hR_m0 h
    · have h := ite_f h c3
      refine qn_iconst hX (pc := 24) dX6_isWord_24 ?_
      exact qn_zret hX (pc := 25) dX6_isWord_25 hE hR_m0 (by decide) (Option.some.inj h)
theorem k_X6_isWord (l : Launch) {G : qG} (hT : qT G) {N : Nat} {x0 : Nat} {x1 : Nat} (k_x0 : gK G x0 = 7) (k_x1 : x1 < 12) {m0 : qM} {r : Int} {nu : qM} (h : f_X6_isWord N G x0 x1 m0 = some (r, nu)) : qC l yX6_isWord wsX6_isWord 4 111 G [.ref x0, .ref (gS G x1)] m0 (some (.int (iZ r))) (in01 r) nu := by
  refine qn_start (hy := by decide) hT (hw := rfl) (hn := Nat.le_of_ble_eq_true rfl) ?_
  intro X h1 h2 h3 h4 hX hR
  subst h4
  exact w_X6_isWord hX ⟨h1, fun q => h2 ▸ q, h3⟩ k_x0 k_x1 hR h
theorem dd_X6_isWord : yX6_isWord.cls = RX6 ∧ yX6_isWord.cls ≠ "java/lang/invoke/MethodHandle" ∧ yX6_isWord.cls ≠ "java/lang/invoke/VarHandle" ∧ (parseMethodDescriptor yX6_isWord.desc).map (fun d => d.parameters.length) = some 1 := by decide +kernel
